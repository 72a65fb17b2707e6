abbrev kY_ArrayList_size : mj_Y := (⟨"java/util/ArrayList", "size", "()I"⟩, prog_33_method_8_code, 1, (Option.some Jvm.ClassFile.FieldType.int))
abbrev kY_ArrayList_get : mj_Y := (⟨"java/util/ArrayList", "get", "(I)Ljava/lang/Object;"⟩, prog_33_method_20_code, 2, (Option.some (Jvm.ClassFile.FieldType.object "java/lang/Object")))
abbrev kY_ArrayList_elementData : mj_Y := (⟨"java/util/ArrayList", "elementData", "(I)Ljava/lang/Object;"⟩, prog_33_method_18_code, 2, (Option.some (Jvm.ClassFile.FieldType.object "java/lang/Object")))
abbrev kY_Objects_checkIndex : mj_Y := (⟨"java/util/Objects", "checkIndex", "(II)I"⟩, prog_38_method_17_code, 2, (Option.some Jvm.ClassFile.FieldType.int))
theorem d_ArrayList_size_0 : decode kY_ArrayList_size.2.1 0 = .ok (.aload_n 0, 1) := by decide +kernel
theorem d_ArrayList_size_1 : decode kY_ArrayList_size.2.1 1 = .ok (.getfield 48, 3) := by decide +kernel
theorem d_ArrayList_size_4 : decode kY_ArrayList_size.2.1 4 = .ok (.ireturn, 1) := by decide +kernel
theorem d_Objects_checkIndex_0 : decode kY_Objects_checkIndex.2.1 0 = .ok (.iload_n 0, 1) := by decide +kernel
theorem d_Objects_checkIndex_1 : decode kY_Objects_checkIndex.2.1 1 = .ok (.iload_n 1, 1) := by decide +kernel
theorem d_Objects_checkIndex_2 : decode kY_Objects_checkIndex.2.1 2 = .ok (.aconst_null, 1) := by decide +kernel
theorem d_Objects_checkIndex_3 : decode kY_Objects_checkIndex.2.1 3 = .ok (.invokestatic 105, 3) := by decide +kernel
theorem d_Objects_checkIndex_6 : decode kY_Objects_checkIndex.2.1 6 = .ok (.ireturn, 1) := by decide +kernel
theorem d_ArrayList_elementData_0 : decode kY_ArrayList_elementData.2.1 0 = .ok (.aload_n 0, 1) := by decide +kernel
theorem d_ArrayList_elementData_1 : decode kY_ArrayList_elementData.2.1 1 = .ok (.getfield 9, 3) := by decide +kernel
theorem d_ArrayList_elementData_4 : decode kY_ArrayList_elementData.2.1 4 = .ok (.iload_n 1, 1) := by decide +kernel
theorem d_ArrayList_elementData_5 : decode kY_ArrayList_elementData.2.1 5 = .ok (.aaload, 1) := by decide +kernel
theorem d_ArrayList_elementData_6 : decode kY_ArrayList_elementData.2.1 6 = .ok (.areturn, 1) := by decide +kernel
theorem d_ArrayList_get_0 : decode kY_ArrayList_get.2.1 0 = .ok (.iload_n 1, 1) := by decide +kernel
theorem d_ArrayList_get_1 : decode kY_ArrayList_get.2.1 1 = .ok (.aload_n 0, 1) := by decide +kernel
theorem d_ArrayList_get_2 : decode kY_ArrayList_get.2.1 2 = .ok (.getfield 48, 3) := by decide +kernel
theorem d_ArrayList_get_5 : decode kY_ArrayList_get.2.1 5 = .ok (.invokestatic 118, 3) := by decide +kernel
theorem d_ArrayList_get_8 : decode kY_ArrayList_get.2.1 8 = .ok (.pop, 1) := by decide +kernel
theorem d_ArrayList_get_9 : decode kY_ArrayList_get.2.1 9 = .ok (.aload_n 0, 1) := by decide +kernel
theorem d_ArrayList_get_10 : decode kY_ArrayList_get.2.1 10 = .ok (.iload_n 1, 1) := by decide +kernel
theorem d_ArrayList_get_11 : decode kY_ArrayList_get.2.1 11 = .ok (.invokevirtual 123, 3) := by decide +kernel
theorem d_ArrayList_get_14 : decode kY_ArrayList_get.2.1 14 = .ok (.areturn, 1) := by decide +kernel
theorem lS_Objects_105 : mj_lS "java/util/Objects" 105 kY_Preconditions_checkIndex 3 := ⟨⟨(mj_in1 (List.mem_of_getElem? (i := 641) (by decide +kernel)) rfl), (mj_in1 (List.mem_of_getElem? (i := 13) (by decide +kernel)) rfl), (mj_in1 (List.mem_of_getElem? (i := 418) (by decide +kernel)) rfl), by decide, rfl, by decide⟩, (mj_in1 (List.mem_of_getElem? (i := 417) (by decide +kernel)) rfl)⟩
theorem lS_ArrayList_118 : mj_lS "java/util/ArrayList" 118 kY_Objects_checkIndex 2 := ⟨⟨(mj_in1 (List.mem_of_getElem? (i := 638) (by decide +kernel)) rfl), (mj_in1 (List.mem_of_getElem? (i := 20) (by decide +kernel)) rfl), (mj_in1 (List.mem_of_getElem? (i := 640) (by decide +kernel)) rfl), by decide, rfl, by decide⟩, (mj_in1 (List.mem_of_getElem? (i := 639) (by decide +kernel)) rfl)⟩
theorem lV_ArrayList_123 : mj_lV "java/util/ArrayList" 123 kY_ArrayList_elementData 1 := ⟨⟨(mj_in1 (List.mem_of_getElem? (i := 642) (by decide +kernel)) rfl), (mj_in1 (List.mem_of_getElem? (i := 9) (by decide +kernel)) rfl), (mj_in1 (List.mem_of_getElem? (i := 645) (by decide +kernel)) rfl), by decide, rfl, by decide⟩, (mj_in1 (List.mem_of_getElem? (i := 643) (by decide +kernel)) rfl), (mj_in1 (List.mem_of_getElem? (i := 644) (by decide +kernel)) rfl)⟩
theorem tc_L_size {g : mj_G} {l : Launch} {d nx : Nat} {M : mj_M} {a e : Nat} {m n : Int32} (hM : M a = some (.inr (0, [.int m, .ref e, .int n]))) : mj_Met g l kY_ArrayList_size d [.ref a] M nx 0 0 (mj_E1 (some (.int n)) M nx) := by
  refine mj_enter (by decide) (Nat.le_of_ble_eq_true rfl) ?_
  refine mv_aload_n d_ArrayList_size_0 rfl rfl ?_
  refine mv_get d_ArrayList_size_1 f_ArrayList_48_0 hM rfl ?_
  exact mv_iret d_ArrayList_size_4 rfl rfl ⟨rfl, rfl, rfl⟩
theorem tc_L_pre {g : mj_G} {l : Launch} {d nx : Nat} {M : mj_M} {i n : Int32} (h0 : 0 ≤ i.toInt) (h1 : i.toInt < n.toInt) : mj_Met g l kY_Preconditions_checkIndex d [.int i, .int n, .null] M nx 0 0 (mj_E1 (some (.int i)) M nx) := by
  refine mj_enter (by decide) (Nat.le_of_ble_eq_true rfl) ?_
  refine mv_iload_n d_Preconditions_checkIndex_0 rfl rfl ?_
  refine mv_if_ltZ (tgt := 9) (a := i.toInt) d_Preconditions_checkIndex_1 (by decide) rfl (fun h => absurd h (by omega)) (fun _ => ?_)
  refine mv_iload_n d_Preconditions_checkIndex_4 rfl rfl ?_
  refine mv_iload_n d_Preconditions_checkIndex_5 rfl rfl ?_
  refine mv_icmp_ltZ (tgt := 16) (a := i.toInt) (b := n.toInt) d_Preconditions_checkIndex_6 (by decide) rfl rfl (fun _ => ?_) (fun h => absurd h (by omega))
  refine mv_iload_n d_Preconditions_checkIndex_16 rfl rfl ?_
  exact mv_iret d_Preconditions_checkIndex_17 rfl rfl ⟨rfl, rfl, rfl⟩
theorem tc_L_chk {g : mj_G} {l : Launch} {d nx : Nat} {M : mj_M} {i n : Int32} (h0 : 0 ≤ i.toInt) (h1 : i.toInt < n.toInt) : mj_Met g l kY_Objects_checkIndex (d + 1) [.int i, .int n] M nx 0 0 (mj_E1 (some (.int i)) M nx) := by
  refine mj_enter (by decide) (Nat.le_of_ble_eq_true rfl) ?_
  refine mv_iload_n d_Objects_checkIndex_0 rfl rfl ?_
  refine mv_iload_n d_Objects_checkIndex_1 rfl rfl ?_
  refine mv_null d_Objects_checkIndex_2 ?_
  refine mv_callS_s (kc' := 0) (ks' := 0) [.int i, .int n, .null] [.null, .int n, .int i] d_Objects_checkIndex_3 lS_Objects_105 (tc_L_pre (d := d) h0 h1) rfl (Nat.le_of_ble_eq_true rfl) (Nat.le_of_ble_eq_true rfl) (Nat.le_of_ble_eq_true rfl) rfl ?_
  exact mv_iret d_Objects_checkIndex_6 rfl rfl ⟨rfl, rfl, rfl⟩
theorem tc_L_el {g : mj_G} {l : Launch} {d nx : Nat} {M : mj_M} {a e N b : Nat} {m n i : Int32} {f : Nat → Option Nat} (hM : M a = some (.inr (0, [.int m, .ref e, .int n]))) (hE : M e = some (.inl (4, N, .inr (.inr (.inr (.inr f)))))) (hi : vp_in i N) (hf : f i.toNatClampNeg = some b) : mj_Met g l kY_ArrayList_elementData d [.ref a, .int i] M nx 0 0 (mj_E1 (some (.ref b)) M nx) := by
  refine mj_enter (by decide) (Nat.le_of_ble_eq_true rfl) ?_
  refine mv_aload_n d_ArrayList_elementData_0 rfl rfl ?_
  refine mv_get d_ArrayList_elementData_1 f_ArrayList_9_0 hM rfl ?_
  refine mv_iload_n d_ArrayList_elementData_4 rfl rfl ?_
  refine mv_aald (r := some b) d_ArrayList_elementData_5 hE hi hf ?_
  exact mv_aret (r := some b) d_ArrayList_elementData_6 rfl (by first | exact Or.inl ⟨_, rfl⟩ | exact Or.inr ⟨_, rfl⟩) ⟨rfl, rfl, rfl⟩
theorem tc_L_get {g : mj_G} {l : Launch} {d nx : Nat} {M : mj_M} {a e N b : Nat} {m n i : Int32} {f : Nat → Option Nat} (hM : M a = some (.inr (0, [.int m, .ref e, .int n]))) (hE : M e = some (.inl (4, N, .inr (.inr (.inr (.inr f)))))) (h0 : 0 ≤ i.toInt) (h1 : i.toInt < n.toInt) (hi : vp_in i N) (hf : f i.toNatClampNeg = some b) : mj_Met g l kY_ArrayList_get (d + 2) [.ref a, .int i] M nx 0 0 (mj_E1 (some (.ref b)) M nx) := by
  refine mj_enter (by decide) (Nat.le_of_ble_eq_true rfl) ?_
  refine mv_iload_n d_ArrayList_get_0 rfl rfl ?_
  refine mv_aload_n d_ArrayList_get_1 rfl rfl ?_
  refine mv_get d_ArrayList_get_2 f_ArrayList_48_0 hM rfl ?_
  refine mv_callS_s (kc' := 0) (ks' := 0) [.int i, .int n] [.int n, .int i] d_ArrayList_get_5 lS_ArrayList_118 (tc_L_chk (d := d) h0 h1) rfl (Nat.le_of_ble_eq_true rfl) (Nat.le_of_ble_eq_true rfl) (Nat.le_of_ble_eq_true rfl) rfl ?_
  refine mv_pop d_ArrayList_get_8 rfl ?_
  refine mv_aload_n d_ArrayList_get_9 rfl rfl ?_
  refine mv_iload_n d_ArrayList_get_10 rfl rfl ?_
  refine mv_callV_s (kc' := 0) (ks' := 0) [.int i] [.int i, .ref a] d_ArrayList_get_11 lV_ArrayList_123 hM rfl (tc_L_el (d := d + 1) hM hE hi hf) rfl (Nat.le_of_ble_eq_true rfl) (Nat.le_of_ble_eq_true rfl) (Nat.le_of_ble_eq_true rfl) rfl ?_
  exact mv_aret (r := some b) d_ArrayList_get_14 rfl (by first | exact Or.inl ⟨_, rfl⟩ | exact Or.inr ⟨_, rfl⟩) ⟨rfl, rfl, rfl⟩
theorem tm_el {T : tm_H} {M : mj_M} {a c e N : Nat} {m n i : Int32} {f : Nat → Option Nat} (h : tm_ls T M a c m n e N f) (h0 : 0 ≤ i.toInt) (h1 : i.toInt < n.toInt) : M e = some (.inl (4, N, .inr (.inr (.inr (.inr f))))) ∧ vp_in i N ∧ ∃ b, f i.toNatClampNeg = some b ∧ T b = some (0, c, 0) := by
  obtain ⟨e1, e2, e3, e4, e5, e6, e7⟩ := h
  refine ⟨?_, vp_in_iff.mpr (by omega), e7 _ (by rw [mz_nat9 h0]; exact h1)⟩
  rcases e6 with ⟨-, e6⟩ | ⟨-, e6, -⟩
  · omega
  · exact e6
theorem tm_rl {i : Int32} (h0 : 0 ≤ i.toInt) (h1 : i.toInt < 6) : ∃ v : Int32, mj_rl.getD i.toNatClampNeg .null = .int v := by
  have h := mz_nat9 h0
  rcases (show i.toNatClampNeg = 0 ∨ i.toNatClampNeg = 1 ∨ i.toNatClampNeg = 2 ∨ i.toNatClampNeg = 3 ∨ i.toNatClampNeg = 4 ∨ i.toNatClampNeg = 5 by omega) with h | h | h | h | h | h <;> (rw [h]; exact ⟨_, rfl⟩)
theorem tm_rm {i : Int32} (h0 : 0 ≤ i.toInt) (h1 : i.toInt < 6) : ∃ v : Int32, mj_rm.getD i.toNatClampNeg .null = .int v := by
  have h := mz_nat9 h0
  rcases (show i.toNatClampNeg = 0 ∨ i.toNatClampNeg = 1 ∨ i.toNatClampNeg = 2 ∨ i.toNatClampNeg = 3 ∨ i.toNatClampNeg = 4 ∨ i.toNatClampNeg = 5 by omega) with h | h | h | h | h | h <;> (rw [h]; exact ⟨_, rfl⟩)
abbrev kY_TrustDesk_account : mj_Y := (⟨"TrustDesk", "account", "(II)I"⟩, prog_1_method_56_code, 6, (Option.some Jvm.ClassFile.FieldType.int))
theorem d_TrustDesk_account_0 : decode kY_TrustDesk_account.2.1 0 = .ok (.aload_n 0, 1) := by decide +kernel
theorem d_TrustDesk_account_1 : decode kY_TrustDesk_account.2.1 1 = .ok (.iload_n 1, 1) := by decide +kernel
theorem d_TrustDesk_account_2 : decode kY_TrustDesk_account.2.1 2 = .ok (.invokevirtual 257, 3) := by decide +kernel
abbrev kY_TrustDesk_fundAt : mj_Y := (⟨"TrustDesk", "fundAt", "(I)LTrustDesk$Fund;"⟩, prog_1_method_60_code, 2, (Option.some (Jvm.ClassFile.FieldType.object "TrustDesk$Fund")))
theorem d_TrustDesk_fundAt_0 : decode kY_TrustDesk_fundAt.2.1 0 = .ok (.iload_n 1, 1) := by decide +kernel
theorem d_TrustDesk_fundAt_1 : decode kY_TrustDesk_fundAt.2.1 1 = .ok (.ifCond .lt 28, 3) := by decide +kernel
theorem d_TrustDesk_fundAt_29 : decode kY_TrustDesk_fundAt.2.1 29 = .ok (.aconst_null, 1) := by decide +kernel
theorem d_TrustDesk_fundAt_30 : decode kY_TrustDesk_fundAt.2.1 30 = .ok (.areturn, 1) := by decide +kernel
theorem d_TrustDesk_fundAt_4 : decode kY_TrustDesk_fundAt.2.1 4 = .ok (.iload_n 1, 1) := by decide +kernel
theorem d_TrustDesk_fundAt_5 : decode kY_TrustDesk_fundAt.2.1 5 = .ok (.aload_n 0, 1) := by decide +kernel
theorem d_TrustDesk_fundAt_6 : decode kY_TrustDesk_fundAt.2.1 6 = .ok (.getfield 53, 3) := by decide +kernel
theorem f_TrustDesk_53_12 : mj_fl "TrustDesk" 53 12 6 := ⟨kR_TrustDesk, kF_TrustDesk, 13, "TrustDesk", rfl, kg_12, by decide, (mj_in1 (List.mem_of_getElem? (i := 273) (by decide +kernel)) rfl), Or.inl rfl⟩
theorem d_TrustDesk_fundAt_9 : decode kY_TrustDesk_fundAt.2.1 9 = .ok (.invokevirtual 97, 3) := by decide +kernel
theorem lV_TrustDesk_97 : mj_lV "TrustDesk" 97 kY_ArrayList_size 0 := ⟨⟨(mj_in1 (List.mem_of_getElem? (i := 353) (by decide +kernel)) rfl), (mj_in1 (List.mem_of_getElem? (i := 9) (by decide +kernel)) rfl), (mj_in1 (List.mem_of_getElem? (i := 356) (by decide +kernel)) rfl), by decide, rfl, by decide⟩, (mj_in1 (List.mem_of_getElem? (i := 354) (by decide +kernel)) rfl), (mj_in1 (List.mem_of_getElem? (i := 355) (by decide +kernel)) rfl)⟩
theorem d_TrustDesk_fundAt_12 : decode kY_TrustDesk_fundAt.2.1 12 = .ok (.if_icmp .ge 17, 3) := by decide +kernel
theorem d_TrustDesk_fundAt_15 : decode kY_TrustDesk_fundAt.2.1 15 = .ok (.aload_n 0, 1) := by decide +kernel
theorem d_TrustDesk_fundAt_16 : decode kY_TrustDesk_fundAt.2.1 16 = .ok (.getfield 53, 3) := by decide +kernel
theorem d_TrustDesk_fundAt_19 : decode kY_TrustDesk_fundAt.2.1 19 = .ok (.iload_n 1, 1) := by decide +kernel
theorem d_TrustDesk_fundAt_20 : decode kY_TrustDesk_fundAt.2.1 20 = .ok (.invokevirtual 158, 3) := by decide +kernel
theorem lV_TrustDesk_158 : mj_lV "TrustDesk" 158 kY_ArrayList_get 1 := ⟨⟨(mj_in1 (List.mem_of_getElem? (i := 634) (by decide +kernel)) rfl), (mj_in1 (List.mem_of_getElem? (i := 9) (by decide +kernel)) rfl), (mj_in1 (List.mem_of_getElem? (i := 637) (by decide +kernel)) rfl), by decide, rfl, by decide⟩, (mj_in1 (List.mem_of_getElem? (i := 635) (by decide +kernel)) rfl), (mj_in1 (List.mem_of_getElem? (i := 636) (by decide +kernel)) rfl)⟩
theorem d_TrustDesk_fundAt_23 : decode kY_TrustDesk_fundAt.2.1 23 = .ok (.checkcast 123, 3) := by decide +kernel
theorem d_TrustDesk_fundAt_26 : decode kY_TrustDesk_fundAt.2.1 26 = .ok (.goto 4, 3) := by decide +kernel
def w_TrustDesk_fundAt : List Nat := []
theorem tc_TrustDesk_fundAt {g : mj_G} {l : Launch} {d : Nat} {T0 : tm_H} {M0 : mj_M} {n0 x9 : Nat} {o0 : Nat} {x1 : Int32} (h_o0 : T0 o0 = some (0, 12, 0)) (I0 : tm_I tm_FT (tm_in w_TrustDesk_fundAt) x9 T0 M0 n0 T0 M0 n0) : mj_Met g l kY_TrustDesk_fundAt (d + 3) [.ref o0, .int x1] M0 n0 0 0 (tm_Q tm_FT (tm_in w_TrustDesk_fundAt) x9 T0 M0 n0 (fun r T _ => r = some .null ∨ ∃ b, r = some (.ref b) ∧ T b = some (0, 6, 0))) := by
  refine mj_enter (by decide) (Nat.le_of_ble_eq_true rfl) ?_
  refine mv_iload_n d_TrustDesk_fundAt_0 rfl rfl ?_
  have := mz_hi x1
  refine mv_if_ltZ (tgt := 29) (a := x1.toInt) d_TrustDesk_fundAt_1 (by decide) rfl (fun b1 => ?_) (fun b1 => ?_)
  · refine mv_null d_TrustDesk_fundAt_29 ?_
    exact mv_aret (r := none) d_TrustDesk_fundAt_30 rfl (by first | exact Or.inl ⟨_, rfl⟩ | exact Or.inr ⟨_, rfl⟩) ⟨_, I0, Or.inl rfl⟩
  · refine mv_iload_n d_TrustDesk_fundAt_4 rfl rfl ?_
    refine mv_aload_n d_TrustDesk_fundAt_5 rfl rfl ?_
    obtain ⟨a3, q2, t_a3⟩ := tm_atO I0 h_o0 (k := 6) rfl
    refine tr_getK q2 d_TrustDesk_fundAt_6 f_TrustDesk_53_12 ?_
    obtain ⟨m5, n9, e6, N7, f8, h4⟩ := I0.1 _ _ t_a3
    have := h4.2.1
    have : n9.toInt ≤ 12 := h4.2.2.1
    have q10 : tm_at M0 a3 0 2 (.int n9) := ⟨_, h4.1, rfl⟩
    refine mv_callV_s (kc' := 0) (ks' := 0) [] [.ref a3, .int x1] d_TrustDesk_fundAt_9 lV_TrustDesk_97 h4.1 rfl (tc_L_size (d := (d + 2)) h4.1) rfl (Nat.le_of_ble_eq_true rfl) (Nat.le_of_ble_eq_true rfl) (Nat.le_of_ble_eq_true rfl) rfl ?_
    have := mz_hi x1
    have := mz_hi n9
    refine mv_icmp_geZ (tgt := 29) (a := x1.toInt) (b := n9.toInt) d_TrustDesk_fundAt_12 (by decide) rfl rfl (fun b11 => ?_) (fun b11 => ?_)
    · refine mv_null d_TrustDesk_fundAt_29 ?_
      exact mv_aret (r := none) d_TrustDesk_fundAt_30 rfl (by first | exact Or.inl ⟨_, rfl⟩ | exact Or.inr ⟨_, rfl⟩) ⟨_, I0, Or.inl rfl⟩
    · refine mv_aload_n d_TrustDesk_fundAt_15 rfl rfl ?_
      refine tr_getK (k := 6) q2 d_TrustDesk_fundAt_16 f_TrustDesk_53_12 ?_
      refine mv_iload_n d_TrustDesk_fundAt_19 rfl rfl ?_
      obtain ⟨m13, e14, N15, f16, h12⟩ := tm_lsn I0 t_a3 q10
      obtain ⟨u17e, u17i, a18, u17f, u17t⟩ := tm_el (i := x1) h12 (by omega) (by omega)
      have t_a18 : T0 a18 = some (0, 6, 0) := u17t
      refine mv_callV_s (kc' := 0) (ks' := 0) [.int x1] [.int x1, .ref a3] d_TrustDesk_fundAt_20 lV_TrustDesk_158 h12.1 rfl (tc_L_get (d := d) h12.1 u17e (by omega) (by omega) u17i u17f) rfl (Nat.le_of_ble_eq_true rfl) (Nat.le_of_ble_eq_true rfl) (Nat.le_of_ble_eq_true rfl) rfl ?_
      obtain ⟨_, b19, -⟩ := I0.1 _ _ t_a18
      refine mv_castS (T9 := kF_Fund) (N := 15) d_TrustDesk_fundAt_23 (mj_in1 (List.mem_of_getElem? (i := 655) (by decide +kernel)) rfl) b19 rfl ?_
      refine mv_goto (tgt := 30) d_TrustDesk_fundAt_26 (by decide) ?_
      exact mv_aret (r := some a18) d_TrustDesk_fundAt_30 rfl (by first | exact Or.inl ⟨_, rfl⟩ | exact Or.inr ⟨_, rfl⟩) ⟨_, I0, Or.inr ⟨_, rfl, t_a18⟩⟩
theorem lV_TrustDesk_257 : mj_lV "TrustDesk" 257 kY_TrustDesk_fundAt 1 := ⟨⟨(mj_in1 (List.mem_of_getElem? (i := 938) (by decide +kernel)) rfl), (mj_in1 (List.mem_of_getElem? (i := 1) (by decide +kernel)) rfl), (mj_in1 (List.mem_of_getElem? (i := 941) (by decide +kernel)) rfl), by decide, rfl, by decide⟩, (mj_in1 (List.mem_of_getElem? (i := 940) (by decide +kernel)) rfl), (mj_in (List.mem_append_left _ (List.mem_of_getElem? (i := 49) (by decide +kernel))) rfl)⟩
theorem d_TrustDesk_account_5 : decode kY_TrustDesk_account.2.1 5 = .ok (.astore_n 3, 1) := by decide +kernel
theorem d_TrustDesk_account_6 : decode kY_TrustDesk_account.2.1 6 = .ok (.aload_n 3, 1) := by decide +kernel
theorem d_TrustDesk_account_7 : decode kY_TrustDesk_account.2.1 7 = .ok (.ifnull 39, 3) := by decide +kernel
theorem d_TrustDesk_account_46 : decode kY_TrustDesk_account.2.1 46 = .ok (.iconst (-1), 1) := by decide +kernel
theorem d_TrustDesk_account_47 : decode kY_TrustDesk_account.2.1 47 = .ok (.ireturn, 1) := by decide +kernel
theorem d_TrustDesk_account_10 : decode kY_TrustDesk_account.2.1 10 = .ok (.iload_n 2, 1) := by decide +kernel
theorem d_TrustDesk_account_11 : decode kY_TrustDesk_account.2.1 11 = .ok (.invokestatic 70, 3) := by decide +kernel
abbrev kY_TrustDesk_isYear : mj_Y := (⟨"TrustDesk", "isYear", "(I)Z"⟩, prog_1_method_66_code, 1, (Option.some Jvm.ClassFile.FieldType.boolean))
theorem d_TrustDesk_isYear_0 : decode kY_TrustDesk_isYear.2.1 0 = .ok (.iload_n 0, 1) := by decide +kernel
theorem d_TrustDesk_isYear_1 : decode kY_TrustDesk_isYear.2.1 1 = .ok (.ifCond .lt 13, 3) := by decide +kernel
theorem d_TrustDesk_isYear_14 : decode kY_TrustDesk_isYear.2.1 14 = .ok (.iconst 0, 1) := by decide +kernel
theorem d_TrustDesk_isYear_15 : decode kY_TrustDesk_isYear.2.1 15 = .ok (.ireturn, 1) := by decide +kernel
theorem d_TrustDesk_isYear_4 : decode kY_TrustDesk_isYear.2.1 4 = .ok (.iload_n 0, 1) := by decide +kernel
theorem d_TrustDesk_isYear_5 : decode kY_TrustDesk_isYear.2.1 5 = .ok (.bipush 100, 2) := by decide +kernel
theorem d_TrustDesk_isYear_7 : decode kY_TrustDesk_isYear.2.1 7 = .ok (.if_icmp .gt 7, 3) := by decide +kernel
theorem d_TrustDesk_isYear_10 : decode kY_TrustDesk_isYear.2.1 10 = .ok (.iconst 1, 1) := by decide +kernel
theorem d_TrustDesk_isYear_11 : decode kY_TrustDesk_isYear.2.1 11 = .ok (.goto 4, 3) := by decide +kernel
def w_TrustDesk_isYear : List Nat := []
theorem tc_TrustDesk_isYear {g : mj_G} {l : Launch} {d : Nat} {T0 : tm_H} {M0 : mj_M} {n0 x9 : Nat} {x1 : Int32} (I0 : tm_I tm_FT (tm_in w_TrustDesk_isYear) x9 T0 M0 n0 T0 M0 n0) : mj_Met g l kY_TrustDesk_isYear d [.int x1] M0 n0 0 0 (tm_Q tm_FT (tm_in w_TrustDesk_isYear) x9 T0 M0 n0 (fun r _ _ => ∃ v : Int32, r = some (.int v) ∧ 0 ≤ v.toInt ∧ v.toInt ≤ 1)) := by
  refine mj_enter (by decide) (Nat.le_of_ble_eq_true rfl) ?_
  refine mv_iload_n d_TrustDesk_isYear_0 rfl rfl ?_
  have := mz_hi x1
  refine mv_if_ltZ (tgt := 14) (a := x1.toInt) d_TrustDesk_isYear_1 (by decide) rfl (fun b1 => ?_) (fun b1 => ?_)
  · refine mv_iconst (v := 0) d_TrustDesk_isYear_14 (by decide) ?_
    exact mv_iret d_TrustDesk_isYear_15 rfl (by decide) ⟨_, I0, _, rfl, by decide, by decide⟩
  · refine mv_iload_n d_TrustDesk_isYear_4 rfl rfl ?_
    refine mv_bipush (v := 100) d_TrustDesk_isYear_5 (by decide) ?_
    have := mz_hi x1
    refine mv_icmp_gtZ (tgt := 14) (a := x1.toInt) (b := 100) d_TrustDesk_isYear_7 (by decide) rfl (by decide) (fun b2 => ?_) (fun b2 => ?_)
    · refine mv_iconst (v := 0) d_TrustDesk_isYear_14 (by decide) ?_
      exact mv_iret d_TrustDesk_isYear_15 rfl (by decide) ⟨_, I0, _, rfl, by decide, by decide⟩
    · refine mv_iconst (v := 1) d_TrustDesk_isYear_10 (by decide) ?_
      refine mv_goto (tgt := 15) d_TrustDesk_isYear_11 (by decide) ?_
      exact mv_iret d_TrustDesk_isYear_15 rfl (by decide) ⟨_, I0, _, rfl, by decide, by decide⟩
theorem lS_TrustDesk_70 : mj_lS "TrustDesk" 70 kY_TrustDesk_isYear 1 := ⟨⟨(mj_in1 (List.mem_of_getElem? (i := 314) (by decide +kernel)) rfl), (mj_in1 (List.mem_of_getElem? (i := 1) (by decide +kernel)) rfl), (mj_in1 (List.mem_of_getElem? (i := 316) (by decide +kernel)) rfl), by decide, rfl, by decide⟩, (mj_in1 (List.mem_of_getElem? (i := 315) (by decide +kernel)) rfl)⟩
theorem d_TrustDesk_account_14 : decode kY_TrustDesk_account.2.1 14 = .ok (.ifCond .eq 32, 3) := by decide +kernel
theorem d_TrustDesk_account_17 : decode kY_TrustDesk_account.2.1 17 = .ok (.iload_n 2, 1) := by decide +kernel
theorem d_TrustDesk_account_18 : decode kY_TrustDesk_account.2.1 18 = .ok (.invokestatic 151, 3) := by decide +kernel
abbrev kY_TrustDesk_lastDayOf : mj_Y := (⟨"TrustDesk", "lastDayOf", "(I)I"⟩, prog_1_method_71_code, 1, (Option.some Jvm.ClassFile.FieldType.int))
theorem d_TrustDesk_lastDayOf_0 : decode kY_TrustDesk_lastDayOf.2.1 0 = .ok (.iload_n 0, 1) := by decide +kernel
theorem d_TrustDesk_lastDayOf_1 : decode kY_TrustDesk_lastDayOf.2.1 1 = .ok (.sipush 360, 3) := by decide +kernel
theorem d_TrustDesk_lastDayOf_4 : decode kY_TrustDesk_lastDayOf.2.1 4 = .ok (.imul, 1) := by decide +kernel
theorem d_TrustDesk_lastDayOf_5 : decode kY_TrustDesk_lastDayOf.2.1 5 = .ok (.sipush 360, 3) := by decide +kernel
theorem d_TrustDesk_lastDayOf_8 : decode kY_TrustDesk_lastDayOf.2.1 8 = .ok (.iadd, 1) := by decide +kernel
theorem d_TrustDesk_lastDayOf_9 : decode kY_TrustDesk_lastDayOf.2.1 9 = .ok (.iconst 1, 1) := by decide +kernel
theorem d_TrustDesk_lastDayOf_10 : decode kY_TrustDesk_lastDayOf.2.1 10 = .ok (.isub, 1) := by decide +kernel
theorem d_TrustDesk_lastDayOf_11 : decode kY_TrustDesk_lastDayOf.2.1 11 = .ok (.ireturn, 1) := by decide +kernel
def w_TrustDesk_lastDayOf : List Nat := []
theorem tc_TrustDesk_lastDayOf {g : mj_G} {l : Launch} {d : Nat} {T0 : tm_H} {M0 : mj_M} {n0 x9 : Nat} {x1 : Int32} (I0 : tm_I tm_FT (tm_in w_TrustDesk_lastDayOf) x9 T0 M0 n0 T0 M0 n0) : mj_Met g l kY_TrustDesk_lastDayOf d [.int x1] M0 n0 0 0 (tm_Q tm_FT (tm_in w_TrustDesk_lastDayOf) x9 T0 M0 n0 (fun r _ _ => ∃ v : Int32, r = some (.int v))) := by
  refine mj_enter (by decide) (Nat.le_of_ble_eq_true rfl) ?_
  refine mv_iload_n d_TrustDesk_lastDayOf_0 rfl rfl ?_
  refine mv_sipush (v := 360) d_TrustDesk_lastDayOf_1 (by decide) ?_
  refine mv_imul d_TrustDesk_lastDayOf_4 ?_
  refine mv_sipush (v := 360) d_TrustDesk_lastDayOf_5 (by decide) ?_
  refine mv_iadd d_TrustDesk_lastDayOf_8 ?_
  refine mv_iconst (v := 1) d_TrustDesk_lastDayOf_9 (by decide) ?_
  refine mv_isub d_TrustDesk_lastDayOf_10 ?_
  exact mv_iret d_TrustDesk_lastDayOf_11 rfl (by first | rfl | decide) ⟨_, I0, _, rfl⟩
theorem lS_TrustDesk_151 : mj_lS "TrustDesk" 151 kY_TrustDesk_lastDayOf 1 := ⟨⟨(mj_in1 (List.mem_of_getElem? (i := 848) (by decide +kernel)) rfl), (mj_in1 (List.mem_of_getElem? (i := 1) (by decide +kernel)) rfl), (mj_in1 (List.mem_of_getElem? (i := 850) (by decide +kernel)) rfl), by decide, rfl, by decide⟩, (mj_in1 (List.mem_of_getElem? (i := 849) (by decide +kernel)) rfl)⟩
theorem d_TrustDesk_account_21 : decode kY_TrustDesk_account.2.1 21 = .ok (.aload_n 0, 1) := by decide +kernel
theorem d_TrustDesk_account_22 : decode kY_TrustDesk_account.2.1 22 = .ok (.getfield 73, 3) := by decide +kernel
theorem f_TrustDesk_73_12 : mj_fl "TrustDesk" 73 12 12 := ⟨kR_TrustDesk, kF_TrustDesk, 13, "TrustDesk", rfl, kg_12, by decide, (mj_in1 (List.mem_of_getElem? (i := 279) (by decide +kernel)) rfl), Or.inl rfl⟩
theorem d_TrustDesk_account_25 : decode kY_TrustDesk_account.2.1 25 = .ok (.if_icmp .ge 21, 3) := by decide +kernel
theorem d_TrustDesk_account_28 : decode kY_TrustDesk_account.2.1 28 = .ok (.aload_n 0, 1) := by decide +kernel
theorem d_TrustDesk_account_29 : decode kY_TrustDesk_account.2.1 29 = .ok (.getfield 509, 3) := by decide +kernel
theorem f_TrustDesk_509_12 : mj_fl "TrustDesk" 509 12 11 := ⟨kR_TrustDesk, kF_TrustDesk, 13, "TrustDesk", rfl, kg_12, by decide, (mj_in1 (List.mem_of_getElem? (i := 278) (by decide +kernel)) rfl), Or.inl rfl⟩
theorem d_TrustDesk_account_32 : decode kY_TrustDesk_account.2.1 32 = .ok (.sipush 200, 3) := by decide +kernel
theorem d_TrustDesk_account_35 : decode kY_TrustDesk_account.2.1 35 = .ok (.if_icmp .ge 11, 3) := by decide +kernel
theorem d_TrustDesk_account_38 : decode kY_TrustDesk_account.2.1 38 = .ok (.aload_n 3, 1) := by decide +kernel
theorem d_TrustDesk_account_39 : decode kY_TrustDesk_account.2.1 39 = .ok (.iload_n 2, 1) := by decide +kernel
theorem d_TrustDesk_account_40 : decode kY_TrustDesk_account.2.1 40 = .ok (.invokevirtual 512, 3) := by decide +kernel
abbrev kY_Fund_takeAccount : mj_Y := (⟨"TrustDesk$Fund", "takeAccount", "(I)Z"⟩, prog_7_method_13_code, 2, (Option.some Jvm.ClassFile.FieldType.boolean))
theorem d_Fund_takeAccount_0 : decode kY_Fund_takeAccount.2.1 0 = .ok (.iload_n 1, 1) := by decide +kernel
theorem d_Fund_takeAccount_1 : decode kY_Fund_takeAccount.2.1 1 = .ok (.ifCond .lt 18, 3) := by decide +kernel
theorem d_Fund_takeAccount_19 : decode kY_Fund_takeAccount.2.1 19 = .ok (.iconst 0, 1) := by decide +kernel
theorem d_Fund_takeAccount_20 : decode kY_Fund_takeAccount.2.1 20 = .ok (.ireturn, 1) := by decide +kernel
theorem d_Fund_takeAccount_4 : decode kY_Fund_takeAccount.2.1 4 = .ok (.iload_n 1, 1) := by decide +kernel
theorem d_Fund_takeAccount_5 : decode kY_Fund_takeAccount.2.1 5 = .ok (.bipush 100, 2) := by decide +kernel
theorem d_Fund_takeAccount_7 : decode kY_Fund_takeAccount.2.1 7 = .ok (.if_icmp .gt 12, 3) := by decide +kernel
theorem d_Fund_takeAccount_10 : decode kY_Fund_takeAccount.2.1 10 = .ok (.aload_n 0, 1) := by decide +kernel
theorem d_Fund_takeAccount_11 : decode kY_Fund_takeAccount.2.1 11 = .ok (.getfield 36, 3) := by decide +kernel
theorem kg_6 : ∀ w ∈ u_ws kR_Fund kF_Fund 15, w ∈ mj_T := fun w h => mj_in1 (ki_Fund w h) (List.all_eq_true.mp (show (u_ws kR_Fund kF_Fund 15).all mj_good = true by decide +kernel) w h)
theorem f_Fund_36_6 : mj_fl "TrustDesk$Fund" 36 6 14 := ⟨kR_Fund, kF_Fund, 15, "TrustDesk$Fund", rfl, kg_6, by decide, (mj_in1 (List.mem_of_getElem? (i := 693) (by decide +kernel)) rfl), Or.inl rfl⟩
theorem d_Fund_takeAccount_14 : decode kY_Fund_takeAccount.2.1 14 = .ok (.iload_n 1, 1) := by decide +kernel
theorem d_Fund_takeAccount_15 : decode kY_Fund_takeAccount.2.1 15 = .ok (.baload, 1) := by decide +kernel
theorem d_Fund_takeAccount_16 : decode kY_Fund_takeAccount.2.1 16 = .ok (.ifCond .eq 5, 3) := by decide +kernel
theorem d_Fund_takeAccount_21 : decode kY_Fund_takeAccount.2.1 21 = .ok (.aload_n 0, 1) := by decide +kernel
theorem d_Fund_takeAccount_22 : decode kY_Fund_takeAccount.2.1 22 = .ok (.getfield 36, 3) := by decide +kernel
theorem d_Fund_takeAccount_25 : decode kY_Fund_takeAccount.2.1 25 = .ok (.iload_n 1, 1) := by decide +kernel
theorem d_Fund_takeAccount_26 : decode kY_Fund_takeAccount.2.1 26 = .ok (.iconst 1, 1) := by decide +kernel
theorem d_Fund_takeAccount_27 : decode kY_Fund_takeAccount.2.1 27 = .ok (.bastore, 1) := by decide +kernel
theorem d_Fund_takeAccount_28 : decode kY_Fund_takeAccount.2.1 28 = .ok (.iconst 1, 1) := by decide +kernel
theorem d_Fund_takeAccount_29 : decode kY_Fund_takeAccount.2.1 29 = .ok (.ireturn, 1) := by decide +kernel
def w_Fund_takeAccount : List Nat := [664]
theorem tc_Fund_takeAccount {g : mj_G} {l : Launch} {d : Nat} {T0 : tm_H} {M0 : mj_M} {n0 x9 : Nat} {o0 : Nat} {x1 : Int32} (h_o0 : T0 o0 = some (0, 6, 0)) (I0 : tm_I tm_FT (tm_in w_Fund_takeAccount) x9 T0 M0 n0 T0 M0 n0) : mj_Met g l kY_Fund_takeAccount d [.ref o0, .int x1] M0 n0 0 0 (tm_Q tm_FT (tm_in w_Fund_takeAccount) x9 T0 M0 n0 (fun r _ _ => ∃ v : Int32, r = some (.int v) ∧ 0 ≤ v.toInt ∧ v.toInt ≤ 1)) := by
  refine mj_enter (by decide) (Nat.le_of_ble_eq_true rfl) ?_
  refine mv_iload_n d_Fund_takeAccount_0 rfl rfl ?_
  have := mz_hi x1
  refine mv_if_ltZ (tgt := 19) (a := x1.toInt) d_Fund_takeAccount_1 (by decide) rfl (fun b1 => ?_) (fun b1 => ?_)
  · refine mv_iconst (v := 0) d_Fund_takeAccount_19 (by decide) ?_
    exact mv_iret d_Fund_takeAccount_20 rfl (by decide) ⟨_, I0, _, rfl, by decide, by decide⟩
  · refine mv_iload_n d_Fund_takeAccount_4 rfl rfl ?_
    refine mv_bipush (v := 100) d_Fund_takeAccount_5 (by decide) ?_
    have := mz_hi x1
    refine mv_icmp_gtZ (tgt := 19) (a := x1.toInt) (b := 100) d_Fund_takeAccount_7 (by decide) rfl (by decide) (fun b2 => ?_) (fun b2 => ?_)
    · refine mv_iconst (v := 0) d_Fund_takeAccount_19 (by decide) ?_
      exact mv_iret d_Fund_takeAccount_20 rfl (by decide) ⟨_, I0, _, rfl, by decide, by decide⟩
    · refine mv_aload_n d_Fund_takeAccount_10 rfl rfl ?_
      obtain ⟨a4, q3, t_a4⟩ := tm_atR I0 h_o0 (k := 14) rfl
      refine tr_getK q3 d_Fund_takeAccount_11 f_Fund_36_6 ?_
      refine mv_iload_n d_Fund_takeAccount_14 rfl rfl ?_
      refine tr_zald I0 t_a4 (by decide) d_Fund_takeAccount_15 (vp_in_iff.mpr (by omega)) (fun v5 => ?_)
      have := mz_hi v5
      refine mv_if_eqZ (tgt := 21) (a := v5.toInt) d_Fund_takeAccount_16 (by decide) rfl (fun b6 => ?_) (fun b6 => ?_)
      · refine mv_aload_n d_Fund_takeAccount_21 rfl rfl ?_
        refine tr_getK (k := 14) q3 d_Fund_takeAccount_22 f_Fund_36_6 ?_
        refine mv_iload_n d_Fund_takeAccount_25 rfl rfl ?_
        refine mv_iconst (v := 1) d_Fund_takeAccount_26 (by decide) ?_
        refine tr_zastK tm_okF I0 t_a4 (by decide) (Or.inl (by decide)) d_Fund_takeAccount_27 (vp_in_iff.mpr (by omega)) (fun M7 I8 K9 => ?_)
        refine mv_iconst (v := 1) d_Fund_takeAccount_28 (by decide) ?_
        exact mv_iret d_Fund_takeAccount_29 rfl (by decide) ⟨_, I8, _, rfl, by decide, by decide⟩
      · refine mv_iconst (v := 0) d_Fund_takeAccount_19 (by decide) ?_
        exact mv_iret d_Fund_takeAccount_20 rfl (by decide) ⟨_, I0, _, rfl, by decide, by decide⟩
theorem lV_TrustDesk_512 : mj_lV "TrustDesk" 512 kY_Fund_takeAccount 1 := ⟨⟨(mj_in1 (List.mem_of_getElem? (i := 1290) (by decide +kernel)) rfl), (mj_in1 (List.mem_of_getElem? (i := 21) (by decide +kernel)) rfl), (mj_in1 (List.mem_of_getElem? (i := 1293) (by decide +kernel)) rfl), by decide, rfl, by decide⟩, (mj_in1 (List.mem_of_getElem? (i := 1291) (by decide +kernel)) rfl), (mj_in1 (List.mem_of_getElem? (i := 1292) (by decide +kernel)) rfl)⟩
theorem d_TrustDesk_account_43 : decode kY_TrustDesk_account.2.1 43 = .ok (.ifCond .ne 5, 3) := by decide +kernel
theorem d_TrustDesk_account_48 : decode kY_TrustDesk_account.2.1 48 = .ok (.aload_n 0, 1) := by decide +kernel
theorem d_TrustDesk_account_49 : decode kY_TrustDesk_account.2.1 49 = .ok (.dup, 1) := by decide +kernel
theorem d_TrustDesk_account_50 : decode kY_TrustDesk_account.2.1 50 = .ok (.getfield 509, 3) := by decide +kernel
theorem d_TrustDesk_account_53 : decode kY_TrustDesk_account.2.1 53 = .ok (.iconst 1, 1) := by decide +kernel
theorem d_TrustDesk_account_54 : decode kY_TrustDesk_account.2.1 54 = .ok (.iadd, 1) := by decide +kernel
theorem d_TrustDesk_account_55 : decode kY_TrustDesk_account.2.1 55 = .ok (.putfield 509, 3) := by decide +kernel
theorem p_TrustDesk_509_12 : mj_fp "TrustDesk" 509 12 11 (kt_TrustDesk 11) false := ⟨kR_TrustDesk, kF_TrustDesk, 13, "TrustDesk", kt_TrustDesk, rfl, kg_12, by decide, (mj_in1 (List.mem_of_getElem? (i := 278) (by decide +kernel)) rfl), Or.inl rfl, kto_TrustDesk, kn_TrustDesk, rfl, rfl, fun h => by cases h⟩
theorem d_TrustDesk_account_58 : decode kY_TrustDesk_account.2.1 58 = .ok (.iload_n 2, 1) := by decide +kernel
theorem d_TrustDesk_account_59 : decode kY_TrustDesk_account.2.1 59 = .ok (.invokestatic 151, 3) := by decide +kernel
theorem d_TrustDesk_account_62 : decode kY_TrustDesk_account.2.1 62 = .ok (.istore 4, 2) := by decide +kernel
theorem d_TrustDesk_account_64 : decode kY_TrustDesk_account.2.1 64 = .ok (.aload_n 0, 1) := by decide +kernel
theorem d_TrustDesk_account_65 : decode kY_TrustDesk_account.2.1 65 = .ok (.getfield 73, 3) := by decide +kernel
theorem d_TrustDesk_account_68 : decode kY_TrustDesk_account.2.1 68 = .ok (.iload 4, 2) := by decide +kernel
theorem d_TrustDesk_account_70 : decode kY_TrustDesk_account.2.1 70 = .ok (.isub, 1) := by decide +kernel
theorem d_TrustDesk_account_71 : decode kY_TrustDesk_account.2.1 71 = .ok (.aload_n 0, 1) := by decide +kernel
theorem d_TrustDesk_account_72 : decode kY_TrustDesk_account.2.1 72 = .ok (.iload 4, 2) := by decide +kernel
theorem d_TrustDesk_account_74 : decode kY_TrustDesk_account.2.1 74 = .ok (.invokevirtual 114, 3) := by decide +kernel
abbrev kY_TrustDesk_inForce : mj_Y := (⟨"TrustDesk", "inForce", "(I)LTrustDesk$Act;"⟩, prog_1_method_64_code, 5, (Option.some (Jvm.ClassFile.FieldType.object "TrustDesk$Act")))
theorem d_TrustDesk_inForce_0 : decode kY_TrustDesk_inForce.2.1 0 = .ok (.aload_n 0, 1) := by decide +kernel
theorem d_TrustDesk_inForce_1 : decode kY_TrustDesk_inForce.2.1 1 = .ok (.getfield 42, 3) := by decide +kernel
theorem f_TrustDesk_42_12 : mj_fl "TrustDesk" 42 12 4 := ⟨kR_TrustDesk, kF_TrustDesk, 13, "TrustDesk", rfl, kg_12, by decide, (mj_in1 (List.mem_of_getElem? (i := 271) (by decide +kernel)) rfl), Or.inl rfl⟩
theorem d_TrustDesk_inForce_4 : decode kY_TrustDesk_inForce.2.1 4 = .ok (.astore_n 2, 1) := by decide +kernel
theorem d_TrustDesk_inForce_5 : decode kY_TrustDesk_inForce.2.1 5 = .ok (.iconst 0, 1) := by decide +kernel
theorem d_TrustDesk_inForce_6 : decode kY_TrustDesk_inForce.2.1 6 = .ok (.istore_n 3, 1) := by decide +kernel
theorem d_TrustDesk_inForce_7 : decode kY_TrustDesk_inForce.2.1 7 = .ok (.iload_n 3, 1) := by decide +kernel
theorem d_TrustDesk_inForce_8 : decode kY_TrustDesk_inForce.2.1 8 = .ok (.aload_n 0, 1) := by decide +kernel
theorem d_TrustDesk_inForce_9 : decode kY_TrustDesk_inForce.2.1 9 = .ok (.getfield 49, 3) := by decide +kernel
theorem f_TrustDesk_49_12 : mj_fl "TrustDesk" 49 12 5 := ⟨kR_TrustDesk, kF_TrustDesk, 13, "TrustDesk", rfl, kg_12, by decide, (mj_in1 (List.mem_of_getElem? (i := 272) (by decide +kernel)) rfl), Or.inl rfl⟩
theorem d_TrustDesk_inForce_12 : decode kY_TrustDesk_inForce.2.1 12 = .ok (.invokevirtual 97, 3) := by decide +kernel
theorem d_TrustDesk_inForce_15 : decode kY_TrustDesk_inForce.2.1 15 = .ok (.if_icmp .ge 46, 3) := by decide +kernel
theorem d_TrustDesk_inForce_61 : decode kY_TrustDesk_inForce.2.1 61 = .ok (.aload_n 2, 1) := by decide +kernel
theorem d_TrustDesk_inForce_62 : decode kY_TrustDesk_inForce.2.1 62 = .ok (.areturn, 1) := by decide +kernel
theorem d_TrustDesk_inForce_18 : decode kY_TrustDesk_inForce.2.1 18 = .ok (.aload_n 0, 1) := by decide +kernel
theorem d_TrustDesk_inForce_19 : decode kY_TrustDesk_inForce.2.1 19 = .ok (.getfield 49, 3) := by decide +kernel
theorem d_TrustDesk_inForce_22 : decode kY_TrustDesk_inForce.2.1 22 = .ok (.iload_n 3, 1) := by decide +kernel
theorem d_TrustDesk_inForce_23 : decode kY_TrustDesk_inForce.2.1 23 = .ok (.invokevirtual 158, 3) := by decide +kernel
theorem d_TrustDesk_inForce_26 : decode kY_TrustDesk_inForce.2.1 26 = .ok (.checkcast 37, 3) := by decide +kernel
theorem d_TrustDesk_inForce_29 : decode kY_TrustDesk_inForce.2.1 29 = .ok (.astore 4, 2) := by decide +kernel
theorem d_TrustDesk_inForce_31 : decode kY_TrustDesk_inForce.2.1 31 = .ok (.aload 4, 2) := by decide +kernel
theorem d_TrustDesk_inForce_33 : decode kY_TrustDesk_inForce.2.1 33 = .ok (.getfield 524, 3) := by decide +kernel
theorem f_TrustDesk_524_1 : mj_fl "TrustDesk" 524 1 0 := ⟨kR_Act, kF_Act, 5, "TrustDesk$Act", rfl, kg_1, by decide, (mj_in1 (List.mem_of_getElem? (i := 247) (by decide +kernel)) rfl), Or.inl rfl⟩
theorem d_TrustDesk_inForce_36 : decode kY_TrustDesk_inForce.2.1 36 = .ok (.iload_n 1, 1) := by decide +kernel
theorem d_TrustDesk_inForce_37 : decode kY_TrustDesk_inForce.2.1 37 = .ok (.if_icmp .gt 18, 3) := by decide +kernel
theorem d_TrustDesk_inForce_55 : decode kY_TrustDesk_inForce.2.1 55 = .ok (.iinc 3 1, 3) := by decide +kernel
theorem d_TrustDesk_inForce_58 : decode kY_TrustDesk_inForce.2.1 58 = .ok (.goto (-51), 3) := by decide +kernel
theorem d_TrustDesk_inForce_40 : decode kY_TrustDesk_inForce.2.1 40 = .ok (.aload 4, 2) := by decide +kernel
theorem d_TrustDesk_inForce_42 : decode kY_TrustDesk_inForce.2.1 42 = .ok (.getfield 524, 3) := by decide +kernel
theorem d_TrustDesk_inForce_45 : decode kY_TrustDesk_inForce.2.1 45 = .ok (.aload_n 2, 1) := by decide +kernel
theorem d_TrustDesk_inForce_46 : decode kY_TrustDesk_inForce.2.1 46 = .ok (.getfield 524, 3) := by decide +kernel
theorem d_TrustDesk_inForce_49 : decode kY_TrustDesk_inForce.2.1 49 = .ok (.if_icmp .lt 6, 3) := by decide +kernel
theorem d_TrustDesk_inForce_52 : decode kY_TrustDesk_inForce.2.1 52 = .ok (.aload 4, 2) := by decide +kernel
theorem d_TrustDesk_inForce_54 : decode kY_TrustDesk_inForce.2.1 54 = .ok (.astore_n 2, 1) := by decide +kernel
def w_TrustDesk_inForce : List Nat := []
theorem tc_TrustDesk_inForce {g : mj_G} {l : Launch} {d : Nat} {T0 : tm_H} {M0 : mj_M} {n0 x9 : Nat} {o0 : Nat} {x1 : Int32} (h_o0 : T0 o0 = some (0, 12, 0)) (I0 : tm_I tm_FT (tm_in w_TrustDesk_inForce) x9 T0 M0 n0 T0 M0 n0) : mj_Met g l kY_TrustDesk_inForce (d + 3) [.ref o0, .int x1] M0 n0 0 0 (tm_Q tm_FT (tm_in w_TrustDesk_inForce) x9 T0 M0 n0 (fun r T _ => ∃ b, r = some (.ref b) ∧ T b = some (0, 1, 0))) := by
  refine mj_enter (by decide) (Nat.le_of_ble_eq_true rfl) ?_
  refine mv_aload_n d_TrustDesk_inForce_0 rfl rfl ?_
  obtain ⟨a2, q1, t_a2⟩ := tm_atR I0 h_o0 (k := 4) rfl
  refine tr_getK q1 d_TrustDesk_inForce_1 f_TrustDesk_42_12 ?_
  refine mv_astore_n (lv' := [(2, .ref a2), (0, .ref o0), (1, .int x1)]) d_TrustDesk_inForce_4 rfl (by decide) rfl ?_
  refine mv_iconst (v := 0) d_TrustDesk_inForce_5 (by decide) ?_
  refine mv_istore_n (lv' := [(3, .int 0), (2, .ref a2), (0, .ref o0), (1, .int x1)]) d_TrustDesk_inForce_6 rfl (by decide) rfl ?_
  have L7_3 : ∀ (k : Nat) (i3_3 : Int32) (r2_3 : Nat) (T_3 : tm_H) (M_3 : mj_M) (n_3 : Nat), tm_I tm_FT (tm_in w_TrustDesk_inForce) x9 T0 M0 n0 T_3 M_3 n_3 → T_3 r2_3 = some (0, 1, 0) → T_3 o0 = some (0, 12, 0) → 0 ≤ i3_3.toInt → 2147483647 - i3_3.toInt < (k : Int) → mj_V g l kY_TrustDesk_inForce (d + 3) 7 [(3, .int i3_3), (2, .ref r2_3), (0, .ref o0), (1, .int x1)] [] M_3 n_3 0 0 (tm_Q tm_FT (tm_in w_TrustDesk_inForce) x9 T0 M0 n0 (fun r T _ => ∃ b, r = some (.ref b) ∧ T b = some (0, 1, 0))) := by
    intro k3
    induction k3 with
    | zero =>
      intro i3_3 r2_3 T_3 M_3 n_3 I_3 h_r2_3 h_q0_3 iv0_3 hk3
      have := mz_hi i3_3
      omega
    | succ k3 ih3 =>
      intro i3_3 r2_3 T_3 M_3 n_3 I_3 h_r2_3 h_q0_3 iv0_3 hk3
      refine mv_iload_n d_TrustDesk_inForce_7 rfl rfl ?_
      refine mv_aload_n d_TrustDesk_inForce_8 rfl rfl ?_
      obtain ⟨a5, q4, t_a5⟩ := tm_atO I_3 h_q0_3 (k := 5) rfl
      refine tr_getK q4 d_TrustDesk_inForce_9 f_TrustDesk_49_12 ?_
      obtain ⟨m7, n11, e8, N9, f10, h6⟩ := I_3.1 _ _ t_a5
      have := h6.2.1
      have : n11.toInt ≤ 20 := h6.2.2.1
      have q12 : tm_at M_3 a5 0 2 (.int n11) := ⟨_, h6.1, rfl⟩
      refine mv_callV_s (kc' := 0) (ks' := 0) [] [.ref a5, .int i3_3] d_TrustDesk_inForce_12 lV_TrustDesk_97 h6.1 rfl (tc_L_size (d := (d + 2)) h6.1) rfl (Nat.le_of_ble_eq_true rfl) (Nat.le_of_ble_eq_true rfl) (Nat.le_of_ble_eq_true rfl) rfl ?_
      have := mz_hi i3_3
      have := mz_hi n11
      refine mv_icmp_geZ (tgt := 61) (a := i3_3.toInt) (b := n11.toInt) d_TrustDesk_inForce_15 (by decide) rfl rfl (fun b13 => ?_) (fun b13 => ?_)
      · refine mv_aload_n d_TrustDesk_inForce_61 rfl rfl ?_
        exact mv_aret (r := some r2_3) d_TrustDesk_inForce_62 rfl (by first | exact Or.inl ⟨_, rfl⟩ | exact Or.inr ⟨_, rfl⟩) ⟨_, I_3, ⟨_, rfl, h_r2_3⟩⟩
      · refine mv_aload_n d_TrustDesk_inForce_18 rfl rfl ?_
        refine tr_getK (k := 5) q4 d_TrustDesk_inForce_19 f_TrustDesk_49_12 ?_
        refine mv_iload_n d_TrustDesk_inForce_22 rfl rfl ?_
        obtain ⟨m15, e16, N17, f18, h14⟩ := tm_lsn I_3 t_a5 q12
        obtain ⟨u19e, u19i, a20, u19f, u19t⟩ := tm_el (i := i3_3) h14 (by omega) (by omega)
        have t_a20 : T_3 a20 = some (0, 1, 0) := u19t
        refine mv_callV_s (kc' := 0) (ks' := 0) [.int i3_3] [.int i3_3, .ref a5] d_TrustDesk_inForce_23 lV_TrustDesk_158 h14.1 rfl (tc_L_get (d := d) h14.1 u19e (by omega) (by omega) u19i u19f) rfl (Nat.le_of_ble_eq_true rfl) (Nat.le_of_ble_eq_true rfl) (Nat.le_of_ble_eq_true rfl) rfl ?_
        obtain ⟨_, b21, -⟩ := I_3.1 _ _ t_a20
        refine mv_castS (T9 := kF_Act) (N := 5) d_TrustDesk_inForce_26 (mj_in1 (List.mem_of_getElem? (i := 205) (by decide +kernel)) rfl) b21 rfl ?_
        refine mv_astore (lv' := [(4, .ref a20), (3, .int i3_3), (2, .ref r2_3), (0, .ref o0), (1, .int x1)]) d_TrustDesk_inForce_29 (by decide) rfl ?_
        refine mv_aload d_TrustDesk_inForce_31 rfl ?_
        obtain ⟨v23, q22⟩ := tm_atI I_3 t_a20 (k := 0) rfl
        refine tr_getK q22 d_TrustDesk_inForce_33 f_TrustDesk_524_1 ?_
        refine mv_iload_n d_TrustDesk_inForce_36 rfl rfl ?_
        have := mz_hi v23
        have := mz_hi x1
        refine mv_icmp_gtZ (tgt := 55) (a := v23.toInt) (b := x1.toInt) d_TrustDesk_inForce_37 (by decide) rfl rfl (fun b24 => ?_) (fun b24 => ?_)
        · refine mv_iinc (v := (i3_3 + 1)) (lv' := [(3, .int (i3_3 + 1)), (4, .ref a20), (2, .ref r2_3), (0, .ref o0), (1, .int x1)]) d_TrustDesk_inForce_55 rfl rfl (by decide) rfl ?_
          refine mv_goto (tgt := 7) d_TrustDesk_inForce_58 (by decide) ?_
          refine mv_locals (lv' := [(3, .int (i3_3 + 1)), (2, .ref r2_3), (0, .ref o0), (1, .int x1)]) (by intro q hq; simp only [List.mem_cons, List.not_mem_nil, or_false] at hq; rcases hq with rfl | rfl | rfl | rfl <;> rfl) ?_
          have b25 : (i3_3 + 1).toInt = i3_3.toInt + 1 := mz_addn 1 1 (by decide) (by have := mz_lo i3_3; omega) (by have := mz_hi i3_3; omega)
          exact (ih3 (i3_3 + 1) r2_3 T_3 M_3 n_3 I_3 h_r2_3 h_q0_3 (by first | omega | decide) (by omega))
        · refine mv_aload d_TrustDesk_inForce_40 rfl ?_
          refine tr_getK (k := 0) q22 d_TrustDesk_inForce_42 f_TrustDesk_524_1 ?_
          refine mv_aload_n d_TrustDesk_inForce_45 rfl rfl ?_
          obtain ⟨v27, q26⟩ := tm_atI I_3 h_r2_3 (k := 0) rfl
          refine tr_getK q26 d_TrustDesk_inForce_46 f_TrustDesk_524_1 ?_
          have := mz_hi v23
          have := mz_hi v27
          refine mv_icmp_ltZ (tgt := 55) (a := v23.toInt) (b := v27.toInt) d_TrustDesk_inForce_49 (by decide) rfl rfl (fun b28 => ?_) (fun b28 => ?_)
          · refine mv_iinc (v := (i3_3 + 1)) (lv' := [(3, .int (i3_3 + 1)), (4, .ref a20), (2, .ref r2_3), (0, .ref o0), (1, .int x1)]) d_TrustDesk_inForce_55 rfl rfl (by decide) rfl ?_
            refine mv_goto (tgt := 7) d_TrustDesk_inForce_58 (by decide) ?_
            refine mv_locals (lv' := [(3, .int (i3_3 + 1)), (2, .ref r2_3), (0, .ref o0), (1, .int x1)]) (by intro q hq; simp only [List.mem_cons, List.not_mem_nil, or_false] at hq; rcases hq with rfl | rfl | rfl | rfl <;> rfl) ?_
            have b29 : (i3_3 + 1).toInt = i3_3.toInt + 1 := mz_addn 1 1 (by decide) (by have := mz_lo i3_3; omega) (by have := mz_hi i3_3; omega)
            exact (ih3 (i3_3 + 1) r2_3 T_3 M_3 n_3 I_3 h_r2_3 h_q0_3 (by first | omega | decide) (by omega))
          · refine mv_aload d_TrustDesk_inForce_52 rfl ?_
            refine mv_astore_n (lv' := [(2, .ref a20), (4, .ref a20), (3, .int i3_3), (0, .ref o0), (1, .int x1)]) d_TrustDesk_inForce_54 rfl (by decide) rfl ?_
            refine mv_iinc (v := (i3_3 + 1)) (lv' := [(3, .int (i3_3 + 1)), (2, .ref a20), (4, .ref a20), (0, .ref o0), (1, .int x1)]) d_TrustDesk_inForce_55 rfl rfl (by decide) rfl ?_
            refine mv_goto (tgt := 7) d_TrustDesk_inForce_58 (by decide) ?_
            refine mv_locals (lv' := [(3, .int (i3_3 + 1)), (2, .ref a20), (0, .ref o0), (1, .int x1)]) (by intro q hq; simp only [List.mem_cons, List.not_mem_nil, or_false] at hq; rcases hq with rfl | rfl | rfl | rfl <;> rfl) ?_
            have b30 : (i3_3 + 1).toInt = i3_3.toInt + 1 := mz_addn 1 1 (by decide) (by have := mz_lo i3_3; omega) (by have := mz_hi i3_3; omega)
            exact (ih3 (i3_3 + 1) a20 T_3 M_3 n_3 I_3 t_a20 h_q0_3 (by first | omega | decide) (by omega))
  exact mv_less (Nat.zero_le _) (Nat.zero_le _) (L7_3 4294967296 0 a2 T0 M0 n0 I0 t_a2 h_o0 (by first | omega | decide) (by show (2147483647 - (0 : Int) : Int) < _; decide))
theorem lV_TrustDesk_114 : mj_lV "TrustDesk" 114 kY_TrustDesk_inForce 1 := ⟨⟨(mj_in1 (List.mem_of_getElem? (i := 630) (by decide +kernel)) rfl), (mj_in1 (List.mem_of_getElem? (i := 1) (by decide +kernel)) rfl), (mj_in1 (List.mem_of_getElem? (i := 633) (by decide +kernel)) rfl), by decide, rfl, by decide⟩, (mj_in1 (List.mem_of_getElem? (i := 632) (by decide +kernel)) rfl), (mj_in (List.mem_append_left _ (List.mem_of_getElem? (i := 34) (by decide +kernel))) rfl)⟩
theorem d_TrustDesk_account_77 : decode kY_TrustDesk_account.2.1 77 = .ok (.iconst 3, 1) := by decide +kernel
theorem d_TrustDesk_account_78 : decode kY_TrustDesk_account.2.1 78 = .ok (.invokevirtual 118, 3) := by decide +kernel
abbrev kY_Act_rule : mj_Y := (⟨"TrustDesk$Act", "rule", "(I)I"⟩, prog_2_method_2_code, 2, (Option.some Jvm.ClassFile.FieldType.int))
theorem d_Act_rule_0 : decode kY_Act_rule.2.1 0 = .ok (.iload_n 1, 1) := by decide +kernel
theorem d_Act_rule_1 : decode kY_Act_rule.2.1 1 = .ok (.ifCond .lt 21, 3) := by decide +kernel
theorem d_Act_rule_22 : decode kY_Act_rule.2.1 22 = .ok (.iconst (-1), 1) := by decide +kernel
theorem d_Act_rule_23 : decode kY_Act_rule.2.1 23 = .ok (.ireturn, 1) := by decide +kernel
theorem d_Act_rule_4 : decode kY_Act_rule.2.1 4 = .ok (.iload_n 1, 1) := by decide +kernel
theorem d_Act_rule_5 : decode kY_Act_rule.2.1 5 = .ok (.aload_n 0, 1) := by decide +kernel
theorem d_Act_rule_6 : decode kY_Act_rule.2.1 6 = .ok (.getfield 27, 3) := by decide +kernel
theorem f_Act_27_1 : mj_fl "TrustDesk$Act" 27 1 3 := ⟨kR_Act, kF_Act, 5, "TrustDesk$Act", rfl, kg_1, by decide, (mj_in1 (List.mem_of_getElem? (i := 252) (by decide +kernel)) rfl), Or.inl rfl⟩
theorem d_Act_rule_9 : decode kY_Act_rule.2.1 9 = .ok (.arraylength, 1) := by decide +kernel
theorem d_Act_rule_10 : decode kY_Act_rule.2.1 10 = .ok (.if_icmp .ge 12, 3) := by decide +kernel
theorem d_Act_rule_13 : decode kY_Act_rule.2.1 13 = .ok (.aload_n 0, 1) := by decide +kernel
theorem d_Act_rule_14 : decode kY_Act_rule.2.1 14 = .ok (.getfield 27, 3) := by decide +kernel
theorem d_Act_rule_17 : decode kY_Act_rule.2.1 17 = .ok (.iload_n 1, 1) := by decide +kernel
theorem d_Act_rule_18 : decode kY_Act_rule.2.1 18 = .ok (.iaload, 1) := by decide +kernel
theorem d_Act_rule_19 : decode kY_Act_rule.2.1 19 = .ok (.goto 4, 3) := by decide +kernel
def w_Act_rule : List Nat := []
theorem tc_Act_rule {g : mj_G} {l : Launch} {d : Nat} {T0 : tm_H} {M0 : mj_M} {n0 x9 : Nat} {o0 : Nat} {x1 : Int32} (h_o0 : T0 o0 = some (0, 1, 0)) (I0 : tm_I tm_FT (tm_in w_Act_rule) x9 T0 M0 n0 T0 M0 n0) : mj_Met g l kY_Act_rule d [.ref o0, .int x1] M0 n0 0 0 (tm_Q tm_FT (tm_in w_Act_rule) x9 T0 M0 n0 (fun r _ _ => ∃ v : Int32, r = some (.int v))) := by
  refine mj_enter (by decide) (Nat.le_of_ble_eq_true rfl) ?_
  refine mv_iload_n d_Act_rule_0 rfl rfl ?_
  have := mz_hi x1
  refine mv_if_ltZ (tgt := 22) (a := x1.toInt) d_Act_rule_1 (by decide) rfl (fun b1 => ?_) (fun b1 => ?_)
  · refine mv_iconst (v := (-1)) d_Act_rule_22 (by decide) ?_
    exact mv_iret d_Act_rule_23 rfl (by first | rfl | decide) ⟨_, I0, _, rfl⟩
  · refine mv_iload_n d_Act_rule_4 rfl rfl ?_
    refine mv_aload_n d_Act_rule_5 rfl rfl ?_
    obtain ⟨a3, q2, t_a3⟩ := tm_atR I0 h_o0 (k := 3) rfl
    refine tr_getK q2 d_Act_rule_6 f_Act_27_1 ?_
    refine tr_alen (v := 6) I0 t_a3 (by decide) (by decide) d_Act_rule_9 ?_
    have := mz_hi x1
    refine mv_icmp_geZ (tgt := 22) (a := x1.toInt) (b := 6) d_Act_rule_10 (by decide) rfl (by decide) (fun b4 => ?_) (fun b4 => ?_)
    · refine mv_iconst (v := (-1)) d_Act_rule_22 (by decide) ?_
      exact mv_iret d_Act_rule_23 rfl (by first | rfl | decide) ⟨_, I0, _, rfl⟩
    · refine mv_aload_n d_Act_rule_13 rfl rfl ?_
      refine tr_getK (k := 3) q2 d_Act_rule_14 f_Act_27_1 ?_
      refine mv_iload_n d_Act_rule_17 rfl rfl ?_
      refine tr_iald I0 t_a3 (by decide) d_Act_rule_18 (vp_in_iff.mpr (by omega)) (fun v5 => ?_)
      refine mv_goto (tgt := 23) d_Act_rule_19 (by decide) ?_
      exact mv_iret d_Act_rule_23 rfl (by first | rfl | decide) ⟨_, I0, _, rfl⟩
theorem lV_TrustDesk_118 : mj_lV "TrustDesk" 118 kY_Act_rule 1 := ⟨⟨(mj_in1 (List.mem_of_getElem? (i := 646) (by decide +kernel)) rfl), (mj_in1 (List.mem_of_getElem? (i := 6) (by decide +kernel)) rfl), (mj_in1 (List.mem_of_getElem? (i := 649) (by decide +kernel)) rfl), by decide, rfl, by decide⟩, (mj_in1 (List.mem_of_getElem? (i := 647) (by decide +kernel)) rfl), (mj_in1 (List.mem_of_getElem? (i := 648) (by decide +kernel)) rfl)⟩
theorem d_TrustDesk_account_81 : decode kY_TrustDesk_account.2.1 81 = .ok (.isub, 1) := by decide +kernel
theorem d_TrustDesk_account_82 : decode kY_TrustDesk_account.2.1 82 = .ok (.istore 5, 2) := by decide +kernel
theorem d_TrustDesk_account_84 : decode kY_TrustDesk_account.2.1 84 = .ok (.iload 5, 2) := by decide +kernel
theorem d_TrustDesk_account_86 : decode kY_TrustDesk_account.2.1 86 = .ok (.ifCond .le 8, 3) := by decide +kernel
theorem d_TrustDesk_account_94 : decode kY_TrustDesk_account.2.1 94 = .ok (.iconst 0, 1) := by decide +kernel
theorem d_TrustDesk_account_95 : decode kY_TrustDesk_account.2.1 95 = .ok (.ireturn, 1) := by decide +kernel
theorem d_TrustDesk_account_89 : decode kY_TrustDesk_account.2.1 89 = .ok (.iload 5, 2) := by decide +kernel
theorem d_TrustDesk_account_91 : decode kY_TrustDesk_account.2.1 91 = .ok (.goto 4, 3) := by decide +kernel
def w_TrustDesk_account : List Nat := [664, 1211]
theorem tc_TrustDesk_account {g : mj_G} {l : Launch} {d : Nat} {T0 : tm_H} {M0 : mj_M} {n0 x9 : Nat} {o0 : Nat} {x1 : Int32} {x2 : Int32} (h_o0 : T0 o0 = some (0, 12, 0)) (I0 : tm_I tm_FT (tm_in w_TrustDesk_account) x9 T0 M0 n0 T0 M0 n0) : mj_Met g l kY_TrustDesk_account (d + 4) [.ref o0, .int x1, .int x2] M0 n0 0 0 (tm_Q tm_FT (tm_in w_TrustDesk_account) x9 T0 M0 n0 (fun r _ _ => ∃ v : Int32, r = some (.int v))) := by
  refine mj_enter (by decide) (Nat.le_of_ble_eq_true rfl) ?_
  refine mv_aload_n d_TrustDesk_account_0 rfl rfl ?_
  refine mv_iload_n d_TrustDesk_account_1 rfl rfl ?_
  obtain ⟨_, b7, -⟩ := I0.1 _ _ h_o0
  refine mv_callV (kc' := 0) (ks' := 0) (As := [.int x1]) (st9 := [.int x1, .ref o0]) d_TrustDesk_account_2 lV_TrustDesk_257 b7 rfl (tc_TrustDesk_fundAt (d := d) (x9 := x9) (o0 := o0) (x1 := x1) h_o0 I0.start) rfl (Nat.le_of_ble_eq_true rfl) (Nat.le_of_ble_eq_true rfl) (Nat.le_of_ble_eq_true rfl) (hst := rfl) (fun b1r M2 n3 b1 => ?_)
  obtain ⟨T4, J5, b9⟩ := b1
  have I6 := I0.call J5 (tm_sub (by decide)) (Or.inl rfl)
  have t10 := J5.up h_o0
  rcases b9 with rfl | ⟨a8, rfl, t_a8⟩
  · refine mv_astore_nN (lv' := [(3, .null), (0, .ref o0), (1, .int x1), (2, .int x2)]) d_TrustDesk_account_5 rfl (by decide) rfl ?_
    refine mv_aload_nN d_TrustDesk_account_6 rfl rfl ?_
    refine mv_ifnullN (tgt := 46) d_TrustDesk_account_7 (by decide) ?_
    refine mv_iconst (v := (-1)) d_TrustDesk_account_46 (by decide) ?_
    exact mv_iret d_TrustDesk_account_47 rfl (by first | rfl | decide) ⟨_, I6, _, rfl⟩
  · refine mv_astore_n (lv' := [(3, .ref a8), (0, .ref o0), (1, .int x1), (2, .int x2)]) d_TrustDesk_account_5 rfl (by decide) rfl ?_
    refine mv_aload_n d_TrustDesk_account_6 rfl rfl ?_
    refine mv_ifnull d_TrustDesk_account_7 ?_
    refine mv_iload_n d_TrustDesk_account_10 rfl rfl ?_
    refine mv_callS (kc' := 0) (ks' := 0) (As := [.int x2]) (st9 := [.int x2]) d_TrustDesk_account_11 lS_TrustDesk_70 (tc_TrustDesk_isYear (d := (d + 3)) (x9 := x9) (x1 := x2)  I6.start) rfl (Nat.le_of_ble_eq_true rfl) (Nat.le_of_ble_eq_true rfl) (Nat.le_of_ble_eq_true rfl) (hst := rfl) (fun b11r M12 n13 b11 => ?_)
    obtain ⟨T14, J15, v17, rfl, b18, b19⟩ := b11
    have I16 := I6.call J15 (tm_sub (by decide)) (Or.inl rfl)
    have t20 := J15.up t_a8
    have t21 := J15.up t10
    have := mz_hi v17
    refine mv_if_eqZ (tgt := 46) (a := v17.toInt) d_TrustDesk_account_14 (by decide) rfl (fun b22 => ?_) (fun b22 => ?_)
    · refine mv_iconst (v := (-1)) d_TrustDesk_account_46 (by decide) ?_
      exact mv_iret d_TrustDesk_account_47 rfl (by first | rfl | decide) ⟨_, I16, _, rfl⟩
    · refine mv_iload_n d_TrustDesk_account_17 rfl rfl ?_
      refine mv_callS (kc' := 0) (ks' := 0) (As := [.int x2]) (st9 := [.int x2]) d_TrustDesk_account_18 lS_TrustDesk_151 (tc_TrustDesk_lastDayOf (d := (d + 3)) (x9 := x9) (x1 := x2)  I16.start) rfl (Nat.le_of_ble_eq_true rfl) (Nat.le_of_ble_eq_true rfl) (Nat.le_of_ble_eq_true rfl) (hst := rfl) (fun b23r M24 n25 b23 => ?_)
      obtain ⟨T26, J27, v29, rfl⟩ := b23
      have I28 := I16.call J27 (tm_sub (by decide)) (Or.inl rfl)
      have t30 := J27.up t20
      have t31 := J27.up t21
      refine mv_aload_n d_TrustDesk_account_21 rfl rfl ?_
      obtain ⟨v33, q32⟩ := tm_atI I28 t31 (k := 12) rfl
      refine tr_getK q32 d_TrustDesk_account_22 f_TrustDesk_73_12 ?_
      have := mz_hi v29
      have := mz_hi v33
      refine mv_icmp_geZ (tgt := 46) (a := v29.toInt) (b := v33.toInt) d_TrustDesk_account_25 (by decide) rfl rfl (fun b34 => ?_) (fun b34 => ?_)
      · refine mv_iconst (v := (-1)) d_TrustDesk_account_46 (by decide) ?_
        exact mv_iret d_TrustDesk_account_47 rfl (by first | rfl | decide) ⟨_, I28, _, rfl⟩
      · refine mv_aload_n d_TrustDesk_account_28 rfl rfl ?_
        obtain ⟨v36, q35⟩ := tm_atI I28 t31 (k := 11) rfl
        refine tr_getK q35 d_TrustDesk_account_29 f_TrustDesk_509_12 ?_
        refine mv_sipush (v := 200) d_TrustDesk_account_32 (by decide) ?_
        have := mz_hi v36
        refine mv_icmp_geZ (tgt := 46) (a := v36.toInt) (b := 200) d_TrustDesk_account_35 (by decide) rfl (by decide) (fun b37 => ?_) (fun b37 => ?_)
        · refine mv_iconst (v := (-1)) d_TrustDesk_account_46 (by decide) ?_
          exact mv_iret d_TrustDesk_account_47 rfl (by first | rfl | decide) ⟨_, I28, _, rfl⟩
        · refine mv_aload_n d_TrustDesk_account_38 rfl rfl ?_
          refine mv_iload_n d_TrustDesk_account_39 rfl rfl ?_
          obtain ⟨_, b44, -⟩ := I28.1 _ _ t30
          refine mv_callV (kc' := 0) (ks' := 0) (As := [.int x2]) (st9 := [.int x2, .ref a8]) d_TrustDesk_account_40 lV_TrustDesk_512 b44 rfl (tc_Fund_takeAccount (d := (d + 3)) (x9 := x9) (o0 := a8) (x1 := x2) t30 I28.start) rfl (Nat.le_of_ble_eq_true rfl) (Nat.le_of_ble_eq_true rfl) (Nat.le_of_ble_eq_true rfl) (hst := rfl) (fun b38r M39 n40 b38 => ?_)
          obtain ⟨T41, J42, v45, rfl, b46, b47⟩ := b38
          have I43 := I28.call J42 (tm_sub (by decide)) (Or.inl rfl)
          have t48 := J42.up t30
          have t49 := J42.up t31
          have q50 := J42.keep t31 (by decide) q32
          have q51 := J42.keep t31 (by decide) q35
          have := mz_hi v45
          refine mv_if_neZ (tgt := 48) (a := v45.toInt) d_TrustDesk_account_43 (by decide) rfl (fun b52 => ?_) (fun b52 => ?_)
          · refine mv_aload_n d_TrustDesk_account_48 rfl rfl ?_
            refine mv_dup d_TrustDesk_account_49 rfl ?_
            refine tr_getK (k := 11) q51 d_TrustDesk_account_50 f_TrustDesk_509_12 ?_
            refine mv_iconst (v := 1) d_TrustDesk_account_53 (by decide) ?_
            refine mv_iadd d_TrustDesk_account_54 ?_
            refine tr_putK tm_okF I43 t49 (k := 11) rfl ⟨_, rfl⟩ (Or.inl (by decide)) d_TrustDesk_account_55 p_TrustDesk_509_12 rfl rfl (fun M53 I54 q55 K56 => ?_)
            refine mv_iload_n d_TrustDesk_account_58 rfl rfl ?_
            refine mv_callS (kc' := 0) (ks' := 0) (As := [.int x2]) (st9 := [.int x2]) d_TrustDesk_account_59 lS_TrustDesk_151 (tc_TrustDesk_lastDayOf (d := (d + 3)) (x9 := x9) (x1 := x2)  I54.start) rfl (Nat.le_of_ble_eq_true rfl) (Nat.le_of_ble_eq_true rfl) (Nat.le_of_ble_eq_true rfl) (hst := rfl) (fun b57r M58 n59 b57 => ?_)
            obtain ⟨T60, J61, v63, rfl⟩ := b57
            have I62 := I54.call J61 (tm_sub (by decide)) (Or.inl rfl)
            have t64 := J61.up t48
            have t65 := J61.up t49
            have q66 := J61.keep t49 (by decide) (K56 _ 12 12 _ rfl q50)
            have q67 := J61.keep t49 (by decide) q55
            refine mv_istore (lv' := [(4, .int v63), (3, .ref a8), (0, .ref o0), (1, .int x1), (2, .int x2)]) d_TrustDesk_account_62 (by decide) rfl ?_
            refine mv_aload_n d_TrustDesk_account_64 rfl rfl ?_
            refine tr_getK (k := 12) q66 d_TrustDesk_account_65 f_TrustDesk_73_12 ?_
            refine mv_iload d_TrustDesk_account_68 rfl ?_
            refine mv_isub d_TrustDesk_account_70 ?_
            refine mv_aload_n d_TrustDesk_account_71 rfl rfl ?_
            refine mv_iload d_TrustDesk_account_72 rfl ?_
            obtain ⟨_, b74, -⟩ := I62.1 _ _ t65
            refine mv_callV (kc' := 0) (ks' := 0) (As := [.int v63]) (st9 := [.int v63, .ref o0, .int (v33 - v63)]) d_TrustDesk_account_74 lV_TrustDesk_114 b74 rfl (tc_TrustDesk_inForce (d := d) (x9 := x9) (o0 := o0) (x1 := v63) t65 I62.start) rfl (Nat.le_of_ble_eq_true rfl) (Nat.le_of_ble_eq_true rfl) (Nat.le_of_ble_eq_true rfl) (hst := rfl) (fun b68r M69 n70 b68 => ?_)
            obtain ⟨T71, J72, a75, rfl, t_a75⟩ := b68
            have I73 := I62.call J72 (tm_sub (by decide)) (Or.inl rfl)
            have t76 := J72.up t64
            have t77 := J72.up t65
            have q78 := J72.keep t65 (by decide) q66
            have q79 := J72.keep t65 (by decide) q67
            refine mv_iconst (v := 3) d_TrustDesk_account_77 (by decide) ?_
            obtain ⟨_, b86, -⟩ := I73.1 _ _ t_a75
            refine mv_callV (kc' := 0) (ks' := 0) (As := [.int 3]) (st9 := [.int 3, .ref a75, .int (v33 - v63)]) d_TrustDesk_account_78 lV_TrustDesk_118 b86 rfl (tc_Act_rule (d := (d + 3)) (x9 := x9) (o0 := a75) (x1 := 3) t_a75 I73.start) rfl (Nat.le_of_ble_eq_true rfl) (Nat.le_of_ble_eq_true rfl) (Nat.le_of_ble_eq_true rfl) (hst := rfl) (fun b80r M81 n82 b80 => ?_)
            obtain ⟨T83, J84, v87, rfl⟩ := b80
            have I85 := I73.call J84 (tm_sub (by decide)) (Or.inl rfl)
            have t88 := J84.up t76
            have t89 := J84.up t77
            have q90 := J84.keep t77 (by decide) q78
            have q91 := J84.keep t77 (by decide) q79
            refine mv_isub d_TrustDesk_account_81 ?_
            refine mv_istore (lv' := [(5, .int ((v33 - v63) - v87)), (4, .int v63), (3, .ref a8), (0, .ref o0), (1, .int x1), (2, .int x2)]) d_TrustDesk_account_82 (by decide) rfl ?_
            refine mv_iload d_TrustDesk_account_84 rfl ?_
            have := mz_hi ((v33 - v63) - v87)
            refine mv_if_leZ (tgt := 94) (a := ((v33 - v63) - v87).toInt) d_TrustDesk_account_86 (by decide) rfl (fun b92 => ?_) (fun b92 => ?_)
            · refine mv_iconst (v := 0) d_TrustDesk_account_94 (by decide) ?_
              exact mv_iret d_TrustDesk_account_95 rfl (by first | rfl | decide) ⟨_, I85, _, rfl⟩
            · refine mv_iload d_TrustDesk_account_89 rfl ?_
              refine mv_goto (tgt := 95) d_TrustDesk_account_91 (by decide) ?_
              exact mv_iret d_TrustDesk_account_95 rfl (by first | rfl | decide) ⟨_, I85, _, rfl⟩
          · refine mv_iconst (v := (-1)) d_TrustDesk_account_46 (by decide) ?_
            exact mv_iret d_TrustDesk_account_47 rfl (by first | rfl | decide) ⟨_, I43, _, rfl⟩
abbrev kY_TrustDesk_act : mj_Y := (⟨"TrustDesk", "act", "(I)I"⟩, prog_1_method_6_code, 4, (Option.some Jvm.ClassFile.FieldType.int))
theorem d_TrustDesk_act_0 : decode kY_TrustDesk_act.2.1 0 = .ok (.iload_n 1, 1) := by decide +kernel
theorem d_TrustDesk_act_1 : decode kY_TrustDesk_act.2.1 1 = .ok (.invokestatic 94, 3) := by decide +kernel
abbrev kY_TrustDesk_isDay : mj_Y := (⟨"TrustDesk", "isDay", "(I)Z"⟩, prog_1_method_67_code, 1, (Option.some Jvm.ClassFile.FieldType.boolean))
theorem d_TrustDesk_isDay_0 : decode kY_TrustDesk_isDay.2.1 0 = .ok (.iload_n 0, 1) := by decide +kernel
theorem d_TrustDesk_isDay_1 : decode kY_TrustDesk_isDay.2.1 1 = .ok (.ifCond .lt 13, 3) := by decide +kernel
theorem d_TrustDesk_isDay_14 : decode kY_TrustDesk_isDay.2.1 14 = .ok (.iconst 0, 1) := by decide +kernel
theorem d_TrustDesk_isDay_15 : decode kY_TrustDesk_isDay.2.1 15 = .ok (.ireturn, 1) := by decide +kernel
theorem d_TrustDesk_isDay_4 : decode kY_TrustDesk_isDay.2.1 4 = .ok (.iload_n 0, 1) := by decide +kernel
theorem d_TrustDesk_isDay_5 : decode kY_TrustDesk_isDay.2.1 5 = .ok (.ldc 147, 2) := by decide +kernel
theorem k_TrustDesk_147 : Cond.constant "TrustDesk" 147 36000 ∈ mj_T := (mj_in1 (List.mem_of_getElem? (i := 352) (by decide +kernel)) rfl)
theorem d_TrustDesk_isDay_7 : decode kY_TrustDesk_isDay.2.1 7 = .ok (.if_icmp .gt 7, 3) := by decide +kernel
theorem d_TrustDesk_isDay_10 : decode kY_TrustDesk_isDay.2.1 10 = .ok (.iconst 1, 1) := by decide +kernel
theorem d_TrustDesk_isDay_11 : decode kY_TrustDesk_isDay.2.1 11 = .ok (.goto 4, 3) := by decide +kernel
def w_TrustDesk_isDay : List Nat := []
theorem tc_TrustDesk_isDay {g : mj_G} {l : Launch} {d : Nat} {T0 : tm_H} {M0 : mj_M} {n0 x9 : Nat} {x1 : Int32} (I0 : tm_I tm_FT (tm_in w_TrustDesk_isDay) x9 T0 M0 n0 T0 M0 n0) : mj_Met g l kY_TrustDesk_isDay d [.int x1] M0 n0 0 0 (tm_Q tm_FT (tm_in w_TrustDesk_isDay) x9 T0 M0 n0 (fun r _ _ => ∃ v : Int32, r = some (.int v) ∧ 0 ≤ v.toInt ∧ v.toInt ≤ 1)) := by
  refine mj_enter (by decide) (Nat.le_of_ble_eq_true rfl) ?_
  refine mv_iload_n d_TrustDesk_isDay_0 rfl rfl ?_
  have := mz_hi x1
  refine mv_if_ltZ (tgt := 14) (a := x1.toInt) d_TrustDesk_isDay_1 (by decide) rfl (fun b1 => ?_) (fun b1 => ?_)
  · refine mv_iconst (v := 0) d_TrustDesk_isDay_14 (by decide) ?_
    exact mv_iret d_TrustDesk_isDay_15 rfl (by decide) ⟨_, I0, _, rfl, by decide, by decide⟩
  · refine mv_iload_n d_TrustDesk_isDay_4 rfl rfl ?_
    refine mv_ldc d_TrustDesk_isDay_5 k_TrustDesk_147 ?_
    have := mz_hi x1
    refine mv_icmp_gtZ (tgt := 14) (a := x1.toInt) (b := 36000) d_TrustDesk_isDay_7 (by decide) rfl (by decide) (fun b2 => ?_) (fun b2 => ?_)
    · refine mv_iconst (v := 0) d_TrustDesk_isDay_14 (by decide) ?_
      exact mv_iret d_TrustDesk_isDay_15 rfl (by decide) ⟨_, I0, _, rfl, by decide, by decide⟩
    · refine mv_iconst (v := 1) d_TrustDesk_isDay_10 (by decide) ?_
      refine mv_goto (tgt := 15) d_TrustDesk_isDay_11 (by decide) ?_
      exact mv_iret d_TrustDesk_isDay_15 rfl (by decide) ⟨_, I0, _, rfl, by decide, by decide⟩
theorem lS_TrustDesk_94 : mj_lS "TrustDesk" 94 kY_TrustDesk_isDay 1 := ⟨⟨(mj_in1 (List.mem_of_getElem? (i := 349) (by decide +kernel)) rfl), (mj_in1 (List.mem_of_getElem? (i := 1) (by decide +kernel)) rfl), (mj_in1 (List.mem_of_getElem? (i := 351) (by decide +kernel)) rfl), by decide, rfl, by decide⟩, (mj_in1 (List.mem_of_getElem? (i := 350) (by decide +kernel)) rfl)⟩
theorem d_TrustDesk_act_4 : decode kY_TrustDesk_act.2.1 4 = .ok (.ifCond .eq 15, 3) := by decide +kernel
theorem d_TrustDesk_act_19 : decode kY_TrustDesk_act.2.1 19 = .ok (.iconst (-1), 1) := by decide +kernel
theorem d_TrustDesk_act_20 : decode kY_TrustDesk_act.2.1 20 = .ok (.ireturn, 1) := by decide +kernel
theorem d_TrustDesk_act_7 : decode kY_TrustDesk_act.2.1 7 = .ok (.aload_n 0, 1) := by decide +kernel
theorem d_TrustDesk_act_8 : decode kY_TrustDesk_act.2.1 8 = .ok (.getfield 49, 3) := by decide +kernel
theorem d_TrustDesk_act_11 : decode kY_TrustDesk_act.2.1 11 = .ok (.invokevirtual 97, 3) := by decide +kernel
theorem d_TrustDesk_act_14 : decode kY_TrustDesk_act.2.1 14 = .ok (.bipush 20, 2) := by decide +kernel
theorem d_TrustDesk_act_16 : decode kY_TrustDesk_act.2.1 16 = .ok (.if_icmp .lt 5, 3) := by decide +kernel
theorem d_TrustDesk_act_21 : decode kY_TrustDesk_act.2.1 21 = .ok (.new 37, 3) := by decide +kernel
theorem d_TrustDesk_act_24 : decode kY_TrustDesk_act.2.1 24 = .ok (.dup, 1) := by decide +kernel
theorem d_TrustDesk_act_25 : decode kY_TrustDesk_act.2.1 25 = .ok (.iload_n 1, 1) := by decide +kernel
theorem d_TrustDesk_act_26 : decode kY_TrustDesk_act.2.1 26 = .ok (.invokespecial 39, 3) := by decide +kernel
def w_AbstractCollection_init : List Nat := []
theorem tc_AbstractCollection_init {g : mj_G} {l : Launch} {d : Nat} {T0 : tm_H} {M0 : mj_M} {n0 : Nat} {o0 : Nat} (h_o0 : T0 o0 = some (5, 0, 0)) (m_o0 : M0 o0 = some (.inr (0, [.int 0, .null, .int 0]))) (I0 : tm_I tm_FT (tm_in w_AbstractCollection_init) o0 T0 M0 n0 T0 M0 n0) : mj_Met g l kY_AbstractCollection_init (d + 1) [.ref o0] M0 n0 0 0 (tm_Q tm_FT (tm_in w_AbstractCollection_init) o0 T0 M0 n0 (fun r T M => r = none ∧ M o0 = some (.inr (0, [.int 0, .null, .int 0])))) := by
  refine mj_enter (by decide) (Nat.le_of_ble_eq_true rfl) ?_
  refine mv_aload_n d_AbstractCollection_init_0 rfl rfl ?_
  refine mv_oinit d_AbstractCollection_init_1 (mj_in1 (List.mem_of_getElem? (i := 222) (by decide +kernel)) rfl) (Nat.le_of_ble_eq_true rfl) ?_
  exact mv_vret d_AbstractCollection_init_4 rfl ⟨_, I0, rfl, m_o0⟩
def w_AbstractList_init : List Nat := []
theorem tc_AbstractList_init {g : mj_G} {l : Launch} {d : Nat} {T0 : tm_H} {M0 : mj_M} {n0 : Nat} {o0 : Nat} (h_o0 : T0 o0 = some (5, 0, 0)) (m_o0 : M0 o0 = some (.inr (0, [.int 0, .null, .int 0]))) (I0 : tm_I tm_FT (tm_in w_AbstractList_init) o0 T0 M0 n0 T0 M0 n0) : mj_Met g l kY_AbstractList_init (d + 2) [.ref o0] M0 n0 0 0 (tm_Q tm_FT (tm_in w_AbstractList_init) o0 T0 M0 n0 (fun r T M => r = none ∧ M o0 = some (.inr (0, [.int 0, .null, .int 0])))) := by
  refine mj_enter (by decide) (Nat.le_of_ble_eq_true rfl) ?_
  refine mv_aload_n d_AbstractList_init_0 rfl rfl ?_
  refine mv_callI (kc' := 0) (ks' := 0) (As := []) (st9 := [.ref o0]) d_AbstractList_init_1 lI_AbstractList_1 (tc_AbstractCollection_init (d := d) (o0 := o0) h_o0 m_o0 I0.start) rfl (Nat.le_of_ble_eq_true rfl) (Nat.le_of_ble_eq_true rfl) (Nat.le_of_ble_eq_true rfl) (hst := rfl) (fun b1r M2 n3 b1 => ?_)
  obtain ⟨T4, J5, rfl, m7⟩ := b1
  have I6 := I0.call J5 (tm_sub (by decide)) (Or.inl rfl)
  have t8 := J5.up h_o0
  refine mv_aload_n d_AbstractList_init_4 rfl rfl ?_
  refine mv_iconst (v := 0) d_AbstractList_init_5 (by decide) ?_
  refine tr_putX (k := 0) (fs' := [.int 0, .null, .int 0]) tm_okF I6 t8 (Or.inl rfl) m7 d_AbstractList_init_6 p_AbstractList_7_0 (Nat.le_of_ble_eq_true rfl) rfl rfl rfl (fun M9 I10 m11 K12 => ?_)
  exact mv_vret d_AbstractList_init_9 rfl ⟨_, I10, rfl, m11⟩
def w_ArrayList_init : List Nat := []
theorem tc_ArrayList_init {g : mj_G} {l : Launch} {d : Nat} {T0 : tm_H} {M0 : mj_M} {n0 : Nat} {o0 : Nat} (h_o0 : T0 o0 = some (5, 0, 0)) (m_o0 : M0 o0 = some (.inr (0, [.int 0, .null, .int 0]))) (I0 : tm_I tm_FT (tm_in w_ArrayList_init) o0 T0 M0 n0 T0 M0 n0) : mj_Met g l kY_ArrayList_init (d + 3) [.ref o0] M0 n0 0 0 (tm_Q tm_FT (tm_in w_ArrayList_init) o0 T0 M0 n0 (fun r T M => r = none ∧ M o0 = some (.inr (0, [.int 0, .ref 0, .int 0])))) := by
  refine mj_enter (by decide) (Nat.le_of_ble_eq_true rfl) ?_
  refine mv_aload_n d_ArrayList_init_0 rfl rfl ?_
  refine mv_callI (kc' := 0) (ks' := 0) (As := []) (st9 := [.ref o0]) d_ArrayList_init_1 lI_ArrayList_1 (tc_AbstractList_init (d := d) (o0 := o0) h_o0 m_o0 I0.start) rfl (Nat.le_of_ble_eq_true rfl) (Nat.le_of_ble_eq_true rfl) (Nat.le_of_ble_eq_true rfl) (hst := rfl) (fun b1r M2 n3 b1 => ?_)
  obtain ⟨T4, J5, rfl, m7⟩ := b1
  have I6 := I0.call J5 (tm_sub (by decide)) (Or.inl rfl)
  have t8 := J5.up h_o0
  refine mv_aload_n d_ArrayList_init_4 rfl rfl ?_
  refine mv_getsD d_ArrayList_init_5 (mj_in1 (List.mem_of_getElem? (i := 223) (by decide +kernel)) rfl) ?_
  refine tr_putX (k := 1) (fs' := [.int 0, .ref 0, .int 0]) tm_okF I6 t8 (Or.inl rfl) m7 d_ArrayList_init_8 p_ArrayList_9_0 (Nat.le_of_ble_eq_true rfl) rfl rfl rfl (fun M9 I10 m11 K12 => ?_)
  exact mv_vret d_ArrayList_init_11 rfl ⟨_, I10, rfl, m11⟩
def w_Act_init : List Nat := []
theorem tc_Act_init {g : mj_G} {l : Launch} {d : Nat} {T0 : tm_H} {M0 : mj_M} {n0 : Nat} {o0 : Nat} {x1 : Int32} (h_o0 : T0 o0 = some (5, 1, 0)) (m_o0 : M0 o0 = some (.inr (1, [.int 0, .int 0, .null, .null, .null]))) (I0 : tm_I tm_FT (tm_in w_Act_init) o0 T0 M0 n0 T0 M0 n0) : mj_Met g l kY_Act_init (d + 4) [.ref o0, .int x1] M0 n0 3 29 (tm_Q tm_FT (tm_in w_Act_init) o0 T0 M0 n0 (fun r T M => r = none ∧ ∃ c0 c1 c2 : Nat, M o0 = some (.inr (1, [.int x1, .int 0, .ref c0, .ref c1, .ref c2])) ∧ T c0 = some (3, 2, o0) ∧ T c1 = some (1, 1224, 6) ∧ T c2 = some (1, 1232, 20))) := by
  refine mj_enter (by decide) (Nat.le_of_ble_eq_true rfl) ?_
  refine mv_aload_n d_Act_init_0 rfl rfl ?_
  refine mv_oinit d_Act_init_1 (mj_in1 (List.mem_of_getElem? (i := 210) (by decide +kernel)) rfl) (Nat.le_of_ble_eq_true rfl) ?_
  refine mv_aload_n d_Act_init_4 rfl rfl ?_
  refine tr_new (kc' := 2) (ks' := 26) tm_okF I0 d_Act_init_5 n_Act_9 (Nat.le_of_ble_eq_true rfl) (Nat.le_of_ble_eq_true rfl) (fun T1 M2 I3 t_x4 m5 h6 u7 K8 => ?_)
  have m9 := (K8 _ _ h_o0).trans m_o0
  have t10 := u7 _ _ h_o0
  have h11 := tm_ne I0 h_o0
  refine mv_dup d_Act_init_8 rfl ?_
  refine mv_callI (kc' := 2) (ks' := 26) (As := []) (st9 := [.ref n0, .ref n0, .ref o0]) d_Act_init_9 lI_Act_11 (tc_ArrayList_init (d := d) (o0 := n0) t_x4 m5 I3.start) rfl (Nat.le_of_ble_eq_true rfl) (Nat.le_of_ble_eq_true rfl) (Nat.le_of_ble_eq_true rfl) (hst := rfl) (fun b12r M13 n14 b12 => ?_)
  obtain ⟨T15, J16, rfl, m18⟩ := b12
  have I17 := I3.call J16 (tm_sub (by decide)) (Or.inr h6)
  have m19 := (J16.keepX t10 h11).trans m9
  have t20 := J16.up t_x4
  have t21 := J16.up t10
  obtain ⟨T22, I23, t_x24, u25⟩ := I17.sealL (o := o0) (c := 2) tm_okF t20 h6 m18
  have t26 := u25 _ _ t21 h11
  refine tr_putXF (k := 2) (fs' := [.int 0, .int 0, .ref n0, .null, .null]) tm_okF I23 t26 (Or.inl rfl) m19 d_Act_init_12 p_Act_12_1 rfl (Nat.le_of_ble_eq_true rfl) rfl rfl rfl (fun M27 I28 m29 K30 => ?_)
  refine mv_aload_n d_Act_init_15 rfl rfl ?_
  refine mv_gets1 d_Act_init_16 (mj_in1 (List.mem_of_getElem? (i := 237) (by decide +kernel)) rfl) ?_
  refine tr_cloneR (E := 1224) (kc' := 1) (ks' := 20) tm_okF I28 (by decide) d_Act_init_19 (mj_in1 (List.mem_of_getElem? (i := 239) (by decide +kernel)) rfl) (Nat.le_of_ble_eq_true rfl) (Nat.le_of_ble_eq_true rfl) (Nat.le_of_ble_eq_true rfl) (fun T31 M32 I33 t_x34 u35 K36 => ?_)
  have m37 := (K36 _ _ t26).trans m29
  have t38 := u35 _ _ t26
  have t39 := u35 _ _ t_x24
  refine tr_castA I33 t_x34 (by decide) d_Act_init_22 (mj_in1 (List.mem_of_getElem? (i := 245) (by decide +kernel)) rfl) ?_
  refine tr_putXF (k := 3) (fs' := [.int 0, .int 0, .ref n0, .ref n14, .null]) tm_okF I33 t38 (Or.inl rfl) m37 d_Act_init_25 p_Act_27_1 rfl (Nat.le_of_ble_eq_true rfl) rfl rfl rfl (fun M40 I41 m42 K43 => ?_)
  refine mv_aload_n d_Act_init_28 rfl rfl ?_
  refine mv_bipush (v := 20) d_Act_init_29 (by decide) ?_
  refine tr_newi (E := 1232) (N := 20) (kc' := 0) (ks' := 0) tm_okF I41 (by decide) d_Act_init_31 (by decide) (by decide) (by decide) (Nat.le_of_ble_eq_true rfl) (Nat.le_of_ble_eq_true rfl) (fun T44 M45 I46 t_x47 u48 K49 => ?_)
  have m50 := (K49 _ _ t38).trans m42
  have t51 := u48 _ _ t38
  have t52 := u48 _ _ t39
  have t53 := u48 _ _ t_x34
  refine tr_putXF (k := 4) (fs' := [.int 0, .int 0, .ref n0, .ref n14, .ref (n14 + 1)]) tm_okF I46 t51 (Or.inl rfl) m50 d_Act_init_33 p_Act_30_1 rfl (Nat.le_of_ble_eq_true rfl) rfl rfl rfl (fun M54 I55 m56 K57 => ?_)
  refine mv_aload_n d_Act_init_36 rfl rfl ?_
  refine mv_iload_n d_Act_init_37 rfl rfl ?_
  refine tr_putXF (k := 0) (fs' := [.int x1, .int 0, .ref n0, .ref n14, .ref (n14 + 1)]) tm_okF I55 t51 (Or.inl rfl) m56 d_Act_init_38 p_Act_33_1 rfl (Nat.le_of_ble_eq_true rfl) rfl rfl rfl (fun M58 I59 m60 K61 => ?_)
  exact mv_vret d_Act_init_41 rfl ⟨_, I59, rfl, _, _, _, m60, t52, t53, t_x47⟩
theorem d_TrustDesk_act_29 : decode kY_TrustDesk_act.2.1 29 = .ok (.astore_n 2, 1) := by decide +kernel
theorem d_TrustDesk_act_30 : decode kY_TrustDesk_act.2.1 30 = .ok (.aload_n 0, 1) := by decide +kernel
theorem d_TrustDesk_act_31 : decode kY_TrustDesk_act.2.1 31 = .ok (.getfield 19, 3) := by decide +kernel
theorem f_TrustDesk_19_12 : mj_fl "TrustDesk" 19 12 1 := ⟨kR_TrustDesk, kF_TrustDesk, 13, "TrustDesk", rfl, kg_12, by decide, (mj_in1 (List.mem_of_getElem? (i := 268) (by decide +kernel)) rfl), Or.inl rfl⟩
theorem d_TrustDesk_act_34 : decode kY_TrustDesk_act.2.1 34 = .ok (.aload_n 2, 1) := by decide +kernel
theorem d_TrustDesk_act_35 : decode kY_TrustDesk_act.2.1 35 = .ok (.invokevirtual 100, 3) := by decide +kernel
abbrev kY_Reader_readAct : mj_Y := (⟨"TrustDesk$Reader", "readAct", "(LTrustDesk$Act;)Z"⟩, prog_10_method_3_code, 3, (Option.some Jvm.ClassFile.FieldType.boolean))
theorem d_Reader_readAct_0 : decode kY_Reader_readAct.2.1 0 = .ok (.aload_n 0, 1) := by decide +kernel
theorem d_Reader_readAct_1 : decode kY_Reader_readAct.2.1 1 = .ok (.bipush 13, 2) := by decide +kernel
theorem d_Reader_readAct_3 : decode kY_Reader_readAct.2.1 3 = .ok (.invokevirtual 37, 3) := by decide +kernel
abbrev kY_Reader_begin : mj_Y := (⟨"TrustDesk$Reader", "begin", "(I)V"⟩, prog_10_method_6_code, 2, (Option.none : Option Jvm.ClassFile.FieldType))
theorem d_Reader_begin_0 : decode kY_Reader_begin.2.1 0 = .ok (.aload_n 0, 1) := by decide +kernel
theorem d_Reader_begin_1 : decode kY_Reader_begin.2.1 1 = .ok (.iload_n 1, 1) := by decide +kernel
theorem d_Reader_begin_2 : decode kY_Reader_begin.2.1 2 = .ok (.putfield 67, 3) := by decide +kernel
theorem p_Reader_67_9 : mj_fp "TrustDesk$Reader" 67 9 15 (kt_Reader 15) false := ⟨kR_Reader, kF_Reader, 19, "TrustDesk$Reader", kt_Reader, rfl, kg_9, by decide, (mj_in1 (List.mem_of_getElem? (i := 87) (by decide +kernel)) rfl), Or.inl rfl, kto_Reader, kn_Reader, rfl, rfl, fun h => by cases h⟩
theorem d_Reader_begin_5 : decode kY_Reader_begin.2.1 5 = .ok (.aload_n 0, 1) := by decide +kernel
theorem d_Reader_begin_6 : decode kY_Reader_begin.2.1 6 = .ok (.iconst 0, 1) := by decide +kernel
theorem d_Reader_begin_7 : decode kY_Reader_begin.2.1 7 = .ok (.putfield 70, 3) := by decide +kernel
theorem p_Reader_70_9 : mj_fp "TrustDesk$Reader" 70 9 1 (kt_Reader 1) false := ⟨kR_Reader, kF_Reader, 19, "TrustDesk$Reader", kt_Reader, rfl, kg_9, by decide, (mj_in1 (List.mem_of_getElem? (i := 71) (by decide +kernel)) rfl), Or.inl rfl, kto_Reader, kn_Reader, rfl, rfl, fun h => by cases h⟩
theorem d_Reader_begin_10 : decode kY_Reader_begin.2.1 10 = .ok (.aload_n 0, 1) := by decide +kernel
theorem d_Reader_begin_11 : decode kY_Reader_begin.2.1 11 = .ok (.iconst (-1), 1) := by decide +kernel
theorem d_Reader_begin_12 : decode kY_Reader_begin.2.1 12 = .ok (.putfield 11, 3) := by decide +kernel
theorem d_Reader_begin_15 : decode kY_Reader_begin.2.1 15 = .ok (.aload_n 0, 1) := by decide +kernel
theorem d_Reader_begin_16 : decode kY_Reader_begin.2.1 16 = .ok (.iconst 0, 1) := by decide +kernel
theorem d_Reader_begin_17 : decode kY_Reader_begin.2.1 17 = .ok (.putfield 73, 3) := by decide +kernel
theorem p_Reader_73_9 : mj_fp "TrustDesk$Reader" 73 9 16 (kt_Reader 16) false := ⟨kR_Reader, kF_Reader, 19, "TrustDesk$Reader", kt_Reader, rfl, kg_9, by decide, (mj_in1 (List.mem_of_getElem? (i := 88) (by decide +kernel)) rfl), Or.inl rfl, kto_Reader, kn_Reader, rfl, rfl, fun h => by cases h⟩
theorem d_Reader_begin_20 : decode kY_Reader_begin.2.1 20 = .ok (.aload_n 0, 1) := by decide +kernel
theorem d_Reader_begin_21 : decode kY_Reader_begin.2.1 21 = .ok (.invokevirtual 76, 3) := by decide +kernel
abbrev kY_Reader_cut : mj_Y := (⟨"TrustDesk$Reader", "cut", "()V"⟩, prog_10_method_33_code, 4, (Option.none : Option Jvm.ClassFile.FieldType))
theorem d_Reader_cut_0 : decode kY_Reader_cut.2.1 0 = .ok (.aload_n 0, 1) := by decide +kernel
theorem d_Reader_cut_1 : decode kY_Reader_cut.2.1 1 = .ok (.iconst 0, 1) := by decide +kernel
theorem d_Reader_cut_2 : decode kY_Reader_cut.2.1 2 = .ok (.putfield 244, 3) := by decide +kernel
theorem p_Reader_244_9 : mj_fp "TrustDesk$Reader" 244 9 8 (kt_Reader 8) false := ⟨kR_Reader, kF_Reader, 19, "TrustDesk$Reader", kt_Reader, rfl, kg_9, by decide, (mj_in1 (List.mem_of_getElem? (i := 80) (by decide +kernel)) rfl), Or.inl rfl, kto_Reader, kn_Reader, rfl, rfl, fun h => by cases h⟩
theorem d_Reader_cut_5 : decode kY_Reader_cut.2.1 5 = .ok (.iconst 0, 1) := by decide +kernel
theorem d_Reader_cut_6 : decode kY_Reader_cut.2.1 6 = .ok (.istore_n 1, 1) := by decide +kernel
theorem d_Reader_cut_7 : decode kY_Reader_cut.2.1 7 = .ok (.iload_n 1, 1) := by decide +kernel
theorem d_Reader_cut_8 : decode kY_Reader_cut.2.1 8 = .ok (.aload_n 0, 1) := by decide +kernel
theorem d_Reader_cut_9 : decode kY_Reader_cut.2.1 9 = .ok (.getfield 34, 3) := by decide +kernel
theorem f_Reader_34_9 : mj_fl "TrustDesk$Reader" 34 9 0 := ⟨kR_Reader, kF_Reader, 19, "TrustDesk$Reader", rfl, kg_9, by decide, (mj_in1 (List.mem_of_getElem? (i := 69) (by decide +kernel)) rfl), Or.inl rfl⟩
theorem d_Reader_cut_12 : decode kY_Reader_cut.2.1 12 = .ok (.if_icmp .ge 58, 3) := by decide +kernel
theorem d_Reader_cut_70 : decode kY_Reader_cut.2.1 70 = .ok (.return_, 1) := by decide +kernel
theorem d_Reader_cut_15 : decode kY_Reader_cut.2.1 15 = .ok (.aload_n 0, 1) := by decide +kernel
theorem d_Reader_cut_16 : decode kY_Reader_cut.2.1 16 = .ok (.iload_n 1, 1) := by decide +kernel
theorem d_Reader_cut_17 : decode kY_Reader_cut.2.1 17 = .ok (.invokevirtual 247, 3) := by decide +kernel
abbrev kY_Reader_sortOf : mj_Y := (⟨"TrustDesk$Reader", "sortOf", "(I)I"⟩, prog_10_method_39_code, 3, (Option.some Jvm.ClassFile.FieldType.int))
theorem d_Reader_sortOf_0 : decode kY_Reader_sortOf.2.1 0 = .ok (.aload_n 0, 1) := by decide +kernel
theorem d_Reader_sortOf_1 : decode kY_Reader_sortOf.2.1 1 = .ok (.iload_n 1, 1) := by decide +kernel
theorem d_Reader_sortOf_2 : decode kY_Reader_sortOf.2.1 2 = .ok (.invokevirtual 261, 3) := by decide +kernel
abbrev kY_Reader_byteAt : mj_Y := (⟨"TrustDesk$Reader", "byteAt", "(I)I"⟩, prog_10_method_40_code, 2, (Option.some Jvm.ClassFile.FieldType.int))
theorem d_Reader_byteAt_0 : decode kY_Reader_byteAt.2.1 0 = .ok (.iload_n 1, 1) := by decide +kernel
theorem d_Reader_byteAt_1 : decode kY_Reader_byteAt.2.1 1 = .ok (.ifCond .lt 19, 3) := by decide +kernel
theorem d_Reader_byteAt_20 : decode kY_Reader_byteAt.2.1 20 = .ok (.iconst 0, 1) := by decide +kernel
theorem d_Reader_byteAt_21 : decode kY_Reader_byteAt.2.1 21 = .ok (.ireturn, 1) := by decide +kernel
theorem d_Reader_byteAt_4 : decode kY_Reader_byteAt.2.1 4 = .ok (.iload_n 1, 1) := by decide +kernel
theorem d_Reader_byteAt_5 : decode kY_Reader_byteAt.2.1 5 = .ok (.sipush 400, 3) := by decide +kernel
theorem d_Reader_byteAt_8 : decode kY_Reader_byteAt.2.1 8 = .ok (.if_icmp .ge 12, 3) := by decide +kernel
theorem d_Reader_byteAt_11 : decode kY_Reader_byteAt.2.1 11 = .ok (.aload_n 0, 1) := by decide +kernel
theorem d_Reader_byteAt_12 : decode kY_Reader_byteAt.2.1 12 = .ok (.getfield 15, 3) := by decide +kernel
theorem f_Reader_15_9 : mj_fl "TrustDesk$Reader" 15 9 3 := ⟨kR_Reader, kF_Reader, 19, "TrustDesk$Reader", rfl, kg_9, by decide, (mj_in1 (List.mem_of_getElem? (i := 75) (by decide +kernel)) rfl), Or.inl rfl⟩
theorem d_Reader_byteAt_15 : decode kY_Reader_byteAt.2.1 15 = .ok (.iload_n 1, 1) := by decide +kernel
theorem d_Reader_byteAt_16 : decode kY_Reader_byteAt.2.1 16 = .ok (.iaload, 1) := by decide +kernel
theorem d_Reader_byteAt_17 : decode kY_Reader_byteAt.2.1 17 = .ok (.goto 4, 3) := by decide +kernel
def w_Reader_byteAt : List Nat := []
theorem tc_Reader_byteAt {g : mj_G} {l : Launch} {d : Nat} {T0 : tm_H} {M0 : mj_M} {n0 x9 : Nat} {o0 : Nat} {x1 : Int32} (h_o0 : T0 o0 = some (0, 9, 0)) (I0 : tm_I tm_FT (tm_in w_Reader_byteAt) x9 T0 M0 n0 T0 M0 n0) : mj_Met g l kY_Reader_byteAt d [.ref o0, .int x1] M0 n0 0 0 (tm_Q tm_FT (tm_in w_Reader_byteAt) x9 T0 M0 n0 (fun r _ _ => ∃ v : Int32, r = some (.int v))) := by
  refine mj_enter (by decide) (Nat.le_of_ble_eq_true rfl) ?_
  refine mv_iload_n d_Reader_byteAt_0 rfl rfl ?_
  have := mz_hi x1
  refine mv_if_ltZ (tgt := 20) (a := x1.toInt) d_Reader_byteAt_1 (by decide) rfl (fun b1 => ?_) (fun b1 => ?_)
  · refine mv_iconst (v := 0) d_Reader_byteAt_20 (by decide) ?_
    exact mv_iret d_Reader_byteAt_21 rfl (by first | rfl | decide) ⟨_, I0, _, rfl⟩
  · refine mv_iload_n d_Reader_byteAt_4 rfl rfl ?_
    refine mv_sipush (v := 400) d_Reader_byteAt_5 (by decide) ?_
    have := mz_hi x1
    refine mv_icmp_geZ (tgt := 20) (a := x1.toInt) (b := 400) d_Reader_byteAt_8 (by decide) rfl (by decide) (fun b2 => ?_) (fun b2 => ?_)
    · refine mv_iconst (v := 0) d_Reader_byteAt_20 (by decide) ?_
      exact mv_iret d_Reader_byteAt_21 rfl (by first | rfl | decide) ⟨_, I0, _, rfl⟩
    · refine mv_aload_n d_Reader_byteAt_11 rfl rfl ?_
      obtain ⟨a4, q3, t_a4⟩ := tm_atR I0 h_o0 (k := 3) rfl
      refine tr_getK q3 d_Reader_byteAt_12 f_Reader_15_9 ?_
      refine mv_iload_n d_Reader_byteAt_15 rfl rfl ?_
      refine tr_iald I0 t_a4 (by decide) d_Reader_byteAt_16 (vp_in_iff.mpr (by omega)) (fun v5 => ?_)
      refine mv_goto (tgt := 21) d_Reader_byteAt_17 (by decide) ?_
      exact mv_iret d_Reader_byteAt_21 rfl (by first | rfl | decide) ⟨_, I0, _, rfl⟩
theorem lV_Reader_261 : mj_lV "TrustDesk$Reader" 261 kY_Reader_byteAt 1 := ⟨⟨(mj_in1 (List.mem_of_getElem? (i := 373) (by decide +kernel)) rfl), (mj_in1 (List.mem_of_getElem? (i := 3) (by decide +kernel)) rfl), (mj_in1 (List.mem_of_getElem? (i := 376) (by decide +kernel)) rfl), by decide, rfl, by decide⟩, (mj_in1 (List.mem_of_getElem? (i := 375) (by decide +kernel)) rfl), (mj_in (List.mem_append_left _ (List.mem_of_getElem? (i := 4) (by decide +kernel))) rfl)⟩
theorem d_Reader_sortOf_5 : decode kY_Reader_sortOf.2.1 5 = .ok (.istore_n 2, 1) := by decide +kernel
theorem d_Reader_sortOf_6 : decode kY_Reader_sortOf.2.1 6 = .ok (.iload_n 2, 1) := by decide +kernel
theorem d_Reader_sortOf_7 : decode kY_Reader_sortOf.2.1 7 = .ok (.bipush 32, 2) := by decide +kernel
theorem d_Reader_sortOf_9 : decode kY_Reader_sortOf.2.1 9 = .ok (.if_icmp .eq 9, 3) := by decide +kernel
theorem d_Reader_sortOf_18 : decode kY_Reader_sortOf.2.1 18 = .ok (.iconst 4, 1) := by decide +kernel
theorem d_Reader_sortOf_19 : decode kY_Reader_sortOf.2.1 19 = .ok (.ireturn, 1) := by decide +kernel
theorem d_Reader_sortOf_12 : decode kY_Reader_sortOf.2.1 12 = .ok (.iload_n 2, 1) := by decide +kernel
theorem d_Reader_sortOf_13 : decode kY_Reader_sortOf.2.1 13 = .ok (.bipush 10, 2) := by decide +kernel
theorem d_Reader_sortOf_15 : decode kY_Reader_sortOf.2.1 15 = .ok (.if_icmp .ne 5, 3) := by decide +kernel
theorem d_Reader_sortOf_20 : decode kY_Reader_sortOf.2.1 20 = .ok (.iload_n 2, 1) := by decide +kernel
theorem d_Reader_sortOf_21 : decode kY_Reader_sortOf.2.1 21 = .ok (.bipush 97, 2) := by decide +kernel
theorem d_Reader_sortOf_23 : decode kY_Reader_sortOf.2.1 23 = .ok (.if_icmp .lt 11, 3) := by decide +kernel
theorem d_Reader_sortOf_34 : decode kY_Reader_sortOf.2.1 34 = .ok (.iload_n 2, 1) := by decide +kernel
theorem d_Reader_sortOf_35 : decode kY_Reader_sortOf.2.1 35 = .ok (.bipush 48, 2) := by decide +kernel
theorem d_Reader_sortOf_37 : decode kY_Reader_sortOf.2.1 37 = .ok (.if_icmp .lt 13, 3) := by decide +kernel
theorem d_Reader_sortOf_50 : decode kY_Reader_sortOf.2.1 50 = .ok (.iconst 3, 1) := by decide +kernel
theorem d_Reader_sortOf_51 : decode kY_Reader_sortOf.2.1 51 = .ok (.ireturn, 1) := by decide +kernel
theorem d_Reader_sortOf_40 : decode kY_Reader_sortOf.2.1 40 = .ok (.iload_n 2, 1) := by decide +kernel
theorem d_Reader_sortOf_41 : decode kY_Reader_sortOf.2.1 41 = .ok (.bipush 57, 2) := by decide +kernel
theorem d_Reader_sortOf_43 : decode kY_Reader_sortOf.2.1 43 = .ok (.if_icmp .gt 7, 3) := by decide +kernel
theorem d_Reader_sortOf_46 : decode kY_Reader_sortOf.2.1 46 = .ok (.iconst 2, 1) := by decide +kernel
theorem d_Reader_sortOf_47 : decode kY_Reader_sortOf.2.1 47 = .ok (.goto 4, 3) := by decide +kernel
theorem d_Reader_sortOf_26 : decode kY_Reader_sortOf.2.1 26 = .ok (.iload_n 2, 1) := by decide +kernel
theorem d_Reader_sortOf_27 : decode kY_Reader_sortOf.2.1 27 = .ok (.bipush 122, 2) := by decide +kernel
theorem d_Reader_sortOf_29 : decode kY_Reader_sortOf.2.1 29 = .ok (.if_icmp .gt 5, 3) := by decide +kernel
theorem d_Reader_sortOf_32 : decode kY_Reader_sortOf.2.1 32 = .ok (.iconst 1, 1) := by decide +kernel
theorem d_Reader_sortOf_33 : decode kY_Reader_sortOf.2.1 33 = .ok (.ireturn, 1) := by decide +kernel
def w_Reader_sortOf : List Nat := []
theorem tc_Reader_sortOf {g : mj_G} {l : Launch} {d : Nat} {T0 : tm_H} {M0 : mj_M} {n0 x9 : Nat} {o0 : Nat} {x1 : Int32} (h_o0 : T0 o0 = some (0, 9, 0)) (I0 : tm_I tm_FT (tm_in w_Reader_sortOf) x9 T0 M0 n0 T0 M0 n0) : mj_Met g l kY_Reader_sortOf (d + 1) [.ref o0, .int x1] M0 n0 0 0 (tm_Q tm_FT (tm_in w_Reader_sortOf) x9 T0 M0 n0 (fun r _ _ => ∃ v : Int32, r = some (.int v))) := by
  refine mj_enter (by decide) (Nat.le_of_ble_eq_true rfl) ?_
  refine mv_aload_n d_Reader_sortOf_0 rfl rfl ?_
  refine mv_iload_n d_Reader_sortOf_1 rfl rfl ?_
  obtain ⟨_, b7, -⟩ := I0.1 _ _ h_o0
  refine mv_callV (kc' := 0) (ks' := 0) (As := [.int x1]) (st9 := [.int x1, .ref o0]) d_Reader_sortOf_2 lV_Reader_261 b7 rfl (tc_Reader_byteAt (d := d) (x9 := x9) (o0 := o0) (x1 := x1) h_o0 I0.start) rfl (Nat.le_of_ble_eq_true rfl) (Nat.le_of_ble_eq_true rfl) (Nat.le_of_ble_eq_true rfl) (hst := rfl) (fun b1r M2 n3 b1 => ?_)
  obtain ⟨T4, J5, v8, rfl⟩ := b1
  have I6 := I0.call J5 (tm_sub (by decide)) (Or.inl rfl)
  have t9 := J5.up h_o0
  refine mv_istore_n (lv' := [(2, .int v8), (0, .ref o0), (1, .int x1)]) d_Reader_sortOf_5 rfl (by decide) rfl ?_
  refine mv_iload_n d_Reader_sortOf_6 rfl rfl ?_
  refine mv_bipush (v := 32) d_Reader_sortOf_7 (by decide) ?_
  have := mz_hi v8
  refine mv_icmp_eqZ (tgt := 18) (a := v8.toInt) (b := 32) d_Reader_sortOf_9 (by decide) rfl (by decide) (fun b10 => ?_) (fun b10 => ?_)
  · refine mv_iconst (v := 4) d_Reader_sortOf_18 (by decide) ?_
    exact mv_iret d_Reader_sortOf_19 rfl (by first | rfl | decide) ⟨_, I6, _, rfl⟩
  · refine mv_iload_n d_Reader_sortOf_12 rfl rfl ?_
    refine mv_bipush (v := 10) d_Reader_sortOf_13 (by decide) ?_
    have := mz_hi v8
    refine mv_icmp_neZ (tgt := 20) (a := v8.toInt) (b := 10) d_Reader_sortOf_15 (by decide) rfl (by decide) (fun b11 => ?_) (fun b11 => ?_)
    · refine mv_iload_n d_Reader_sortOf_20 rfl rfl ?_
      refine mv_bipush (v := 97) d_Reader_sortOf_21 (by decide) ?_
      have := mz_hi v8
      refine mv_icmp_ltZ (tgt := 34) (a := v8.toInt) (b := 97) d_Reader_sortOf_23 (by decide) rfl (by decide) (fun b12 => ?_) (fun b12 => ?_)
      · refine mv_iload_n d_Reader_sortOf_34 rfl rfl ?_
        refine mv_bipush (v := 48) d_Reader_sortOf_35 (by decide) ?_
        have := mz_hi v8
        refine mv_icmp_ltZ (tgt := 50) (a := v8.toInt) (b := 48) d_Reader_sortOf_37 (by decide) rfl (by decide) (fun b13 => ?_) (fun b13 => ?_)
        · refine mv_iconst (v := 3) d_Reader_sortOf_50 (by decide) ?_
          exact mv_iret d_Reader_sortOf_51 rfl (by first | rfl | decide) ⟨_, I6, _, rfl⟩
        · refine mv_iload_n d_Reader_sortOf_40 rfl rfl ?_
          refine mv_bipush (v := 57) d_Reader_sortOf_41 (by decide) ?_
          have := mz_hi v8
          refine mv_icmp_gtZ (tgt := 50) (a := v8.toInt) (b := 57) d_Reader_sortOf_43 (by decide) rfl (by decide) (fun b14 => ?_) (fun b14 => ?_)
          · refine mv_iconst (v := 3) d_Reader_sortOf_50 (by decide) ?_
            exact mv_iret d_Reader_sortOf_51 rfl (by first | rfl | decide) ⟨_, I6, _, rfl⟩
          · refine mv_iconst (v := 2) d_Reader_sortOf_46 (by decide) ?_
            refine mv_goto (tgt := 51) d_Reader_sortOf_47 (by decide) ?_
            exact mv_iret d_Reader_sortOf_51 rfl (by first | rfl | decide) ⟨_, I6, _, rfl⟩
      · refine mv_iload_n d_Reader_sortOf_26 rfl rfl ?_
        refine mv_bipush (v := 122) d_Reader_sortOf_27 (by decide) ?_
        have := mz_hi v8
        refine mv_icmp_gtZ (tgt := 34) (a := v8.toInt) (b := 122) d_Reader_sortOf_29 (by decide) rfl (by decide) (fun b15 => ?_) (fun b15 => ?_)
        · refine mv_iload_n d_Reader_sortOf_34 rfl rfl ?_
          refine mv_bipush (v := 48) d_Reader_sortOf_35 (by decide) ?_
          have := mz_hi v8
          refine mv_icmp_ltZ (tgt := 50) (a := v8.toInt) (b := 48) d_Reader_sortOf_37 (by decide) rfl (by decide) (fun b16 => absurd b16 (by omega)) (fun b16 => ?_)
          refine mv_iload_n d_Reader_sortOf_40 rfl rfl ?_
          refine mv_bipush (v := 57) d_Reader_sortOf_41 (by decide) ?_
          have := mz_hi v8
          refine mv_icmp_gtZ (tgt := 50) (a := v8.toInt) (b := 57) d_Reader_sortOf_43 (by decide) rfl (by decide) (fun b17 => ?_) (fun b17 => absurd b17 (by omega))
          refine mv_iconst (v := 3) d_Reader_sortOf_50 (by decide) ?_
          exact mv_iret d_Reader_sortOf_51 rfl (by first | rfl | decide) ⟨_, I6, _, rfl⟩
        · refine mv_iconst (v := 1) d_Reader_sortOf_32 (by decide) ?_
          exact mv_iret d_Reader_sortOf_33 rfl (by first | rfl | decide) ⟨_, I6, _, rfl⟩
    · refine mv_iconst (v := 4) d_Reader_sortOf_18 (by decide) ?_
      exact mv_iret d_Reader_sortOf_19 rfl (by first | rfl | decide) ⟨_, I6, _, rfl⟩
theorem lV_Reader_247 : mj_lV "TrustDesk$Reader" 247 kY_Reader_sortOf 1 := ⟨⟨(mj_in1 (List.mem_of_getElem? (i := 369) (by decide +kernel)) rfl), (mj_in1 (List.mem_of_getElem? (i := 3) (by decide +kernel)) rfl), (mj_in1 (List.mem_of_getElem? (i := 372) (by decide +kernel)) rfl), by decide, rfl, by decide⟩, (mj_in1 (List.mem_of_getElem? (i := 371) (by decide +kernel)) rfl), (mj_in (List.mem_append_left _ (List.mem_of_getElem? (i := 3) (by decide +kernel))) rfl)⟩
theorem d_Reader_cut_20 : decode kY_Reader_cut.2.1 20 = .ok (.istore_n 2, 1) := by decide +kernel
theorem d_Reader_cut_21 : decode kY_Reader_cut.2.1 21 = .ok (.iload_n 1, 1) := by decide +kernel
theorem d_Reader_cut_22 : decode kY_Reader_cut.2.1 22 = .ok (.iconst 1, 1) := by decide +kernel
theorem d_Reader_cut_23 : decode kY_Reader_cut.2.1 23 = .ok (.iadd, 1) := by decide +kernel
theorem d_Reader_cut_24 : decode kY_Reader_cut.2.1 24 = .ok (.istore_n 3, 1) := by decide +kernel
theorem d_Reader_cut_25 : decode kY_Reader_cut.2.1 25 = .ok (.iload_n 2, 1) := by decide +kernel
theorem d_Reader_cut_26 : decode kY_Reader_cut.2.1 26 = .ok (.iconst 3, 1) := by decide +kernel
theorem d_Reader_cut_27 : decode kY_Reader_cut.2.1 27 = .ok (.if_icmp .eq 26, 3) := by decide +kernel
theorem d_Reader_cut_53 : decode kY_Reader_cut.2.1 53 = .ok (.iload_n 2, 1) := by decide +kernel
theorem d_Reader_cut_54 : decode kY_Reader_cut.2.1 54 = .ok (.iconst 4, 1) := by decide +kernel
theorem d_Reader_cut_55 : decode kY_Reader_cut.2.1 55 = .ok (.if_icmp .eq 10, 3) := by decide +kernel
theorem d_Reader_cut_58 : decode kY_Reader_cut.2.1 58 = .ok (.aload_n 0, 1) := by decide +kernel
theorem d_Reader_cut_59 : decode kY_Reader_cut.2.1 59 = .ok (.iload_n 2, 1) := by decide +kernel
theorem d_Reader_cut_60 : decode kY_Reader_cut.2.1 60 = .ok (.iload_n 1, 1) := by decide +kernel
theorem d_Reader_cut_61 : decode kY_Reader_cut.2.1 61 = .ok (.iload_n 3, 1) := by decide +kernel
theorem d_Reader_cut_62 : decode kY_Reader_cut.2.1 62 = .ok (.invokevirtual 251, 3) := by decide +kernel
abbrev kY_Reader_putToken : mj_Y := (⟨"TrustDesk$Reader", "putToken", "(III)V"⟩, prog_10_method_34_code, 5, (Option.none : Option Jvm.ClassFile.FieldType))
theorem d_Reader_putToken_0 : decode kY_Reader_putToken.2.1 0 = .ok (.aload_n 0, 1) := by decide +kernel
theorem d_Reader_putToken_1 : decode kY_Reader_putToken.2.1 1 = .ok (.getfield 244, 3) := by decide +kernel
theorem f_Reader_244_9 : mj_fl "TrustDesk$Reader" 244 9 8 := ⟨kR_Reader, kF_Reader, 19, "TrustDesk$Reader", rfl, kg_9, by decide, (mj_in1 (List.mem_of_getElem? (i := 80) (by decide +kernel)) rfl), Or.inl rfl⟩
theorem d_Reader_putToken_4 : decode kY_Reader_putToken.2.1 4 = .ok (.istore 4, 2) := by decide +kernel
theorem d_Reader_putToken_6 : decode kY_Reader_putToken.2.1 6 = .ok (.iload 4, 2) := by decide +kernel
theorem d_Reader_putToken_8 : decode kY_Reader_putToken.2.1 8 = .ok (.ifCond .lt 11, 3) := by decide +kernel
theorem d_Reader_putToken_19 : decode kY_Reader_putToken.2.1 19 = .ok (.return_, 1) := by decide +kernel
theorem d_Reader_putToken_11 : decode kY_Reader_putToken.2.1 11 = .ok (.iload 4, 2) := by decide +kernel
theorem d_Reader_putToken_13 : decode kY_Reader_putToken.2.1 13 = .ok (.sipush 400, 3) := by decide +kernel
theorem d_Reader_putToken_16 : decode kY_Reader_putToken.2.1 16 = .ok (.if_icmp .lt 4, 3) := by decide +kernel
theorem d_Reader_putToken_20 : decode kY_Reader_putToken.2.1 20 = .ok (.aload_n 0, 1) := by decide +kernel
theorem d_Reader_putToken_21 : decode kY_Reader_putToken.2.1 21 = .ok (.getfield 19, 3) := by decide +kernel
theorem f_Reader_19_9 : mj_fl "TrustDesk$Reader" 19 9 4 := ⟨kR_Reader, kF_Reader, 19, "TrustDesk$Reader", rfl, kg_9, by decide, (mj_in1 (List.mem_of_getElem? (i := 76) (by decide +kernel)) rfl), Or.inl rfl⟩
theorem d_Reader_putToken_24 : decode kY_Reader_putToken.2.1 24 = .ok (.iload 4, 2) := by decide +kernel
theorem d_Reader_putToken_26 : decode kY_Reader_putToken.2.1 26 = .ok (.iload_n 1, 1) := by decide +kernel
theorem d_Reader_putToken_27 : decode kY_Reader_putToken.2.1 27 = .ok (.iastore, 1) := by decide +kernel
theorem d_Reader_putToken_28 : decode kY_Reader_putToken.2.1 28 = .ok (.aload_n 0, 1) := by decide +kernel
theorem d_Reader_putToken_29 : decode kY_Reader_putToken.2.1 29 = .ok (.getfield 22, 3) := by decide +kernel
theorem f_Reader_22_9 : mj_fl "TrustDesk$Reader" 22 9 5 := ⟨kR_Reader, kF_Reader, 19, "TrustDesk$Reader", rfl, kg_9, by decide, (mj_in1 (List.mem_of_getElem? (i := 77) (by decide +kernel)) rfl), Or.inl rfl⟩
theorem d_Reader_putToken_32 : decode kY_Reader_putToken.2.1 32 = .ok (.iload 4, 2) := by decide +kernel
theorem d_Reader_putToken_34 : decode kY_Reader_putToken.2.1 34 = .ok (.iload_n 2, 1) := by decide +kernel
theorem d_Reader_putToken_35 : decode kY_Reader_putToken.2.1 35 = .ok (.iastore, 1) := by decide +kernel
theorem d_Reader_putToken_36 : decode kY_Reader_putToken.2.1 36 = .ok (.aload_n 0, 1) := by decide +kernel
theorem d_Reader_putToken_37 : decode kY_Reader_putToken.2.1 37 = .ok (.getfield 25, 3) := by decide +kernel
theorem f_Reader_25_9 : mj_fl "TrustDesk$Reader" 25 9 6 := ⟨kR_Reader, kF_Reader, 19, "TrustDesk$Reader", rfl, kg_9, by decide, (mj_in1 (List.mem_of_getElem? (i := 78) (by decide +kernel)) rfl), Or.inl rfl⟩
theorem d_Reader_putToken_40 : decode kY_Reader_putToken.2.1 40 = .ok (.iload 4, 2) := by decide +kernel
theorem d_Reader_putToken_42 : decode kY_Reader_putToken.2.1 42 = .ok (.iload_n 3, 1) := by decide +kernel
theorem d_Reader_putToken_43 : decode kY_Reader_putToken.2.1 43 = .ok (.iastore, 1) := by decide +kernel
theorem d_Reader_putToken_44 : decode kY_Reader_putToken.2.1 44 = .ok (.aload_n 0, 1) := by decide +kernel
theorem d_Reader_putToken_45 : decode kY_Reader_putToken.2.1 45 = .ok (.getfield 28, 3) := by decide +kernel
theorem f_Reader_28_9 : mj_fl "TrustDesk$Reader" 28 9 7 := ⟨kR_Reader, kF_Reader, 19, "TrustDesk$Reader", rfl, kg_9, by decide, (mj_in1 (List.mem_of_getElem? (i := 79) (by decide +kernel)) rfl), Or.inl rfl⟩
theorem d_Reader_putToken_48 : decode kY_Reader_putToken.2.1 48 = .ok (.iload 4, 2) := by decide +kernel
theorem d_Reader_putToken_50 : decode kY_Reader_putToken.2.1 50 = .ok (.iload_n 1, 1) := by decide +kernel
theorem d_Reader_putToken_51 : decode kY_Reader_putToken.2.1 51 = .ok (.iconst 1, 1) := by decide +kernel
theorem d_Reader_putToken_52 : decode kY_Reader_putToken.2.1 52 = .ok (.if_icmp .ne 12, 3) := by decide +kernel
theorem d_Reader_putToken_64 : decode kY_Reader_putToken.2.1 64 = .ok (.iload_n 1, 1) := by decide +kernel
theorem d_Reader_putToken_65 : decode kY_Reader_putToken.2.1 65 = .ok (.iconst 2, 1) := by decide +kernel
theorem d_Reader_putToken_66 : decode kY_Reader_putToken.2.1 66 = .ok (.if_icmp .ne 12, 3) := by decide +kernel
theorem d_Reader_putToken_78 : decode kY_Reader_putToken.2.1 78 = .ok (.aload_n 0, 1) := by decide +kernel
theorem d_Reader_putToken_79 : decode kY_Reader_putToken.2.1 79 = .ok (.iload_n 2, 1) := by decide +kernel
theorem d_Reader_putToken_80 : decode kY_Reader_putToken.2.1 80 = .ok (.invokevirtual 261, 3) := by decide +kernel
theorem d_Reader_putToken_83 : decode kY_Reader_putToken.2.1 83 = .ok (.iastore, 1) := by decide +kernel
theorem d_Reader_putToken_84 : decode kY_Reader_putToken.2.1 84 = .ok (.aload_n 0, 1) := by decide +kernel
theorem d_Reader_putToken_85 : decode kY_Reader_putToken.2.1 85 = .ok (.dup, 1) := by decide +kernel
theorem d_Reader_putToken_86 : decode kY_Reader_putToken.2.1 86 = .ok (.getfield 244, 3) := by decide +kernel
theorem d_Reader_putToken_89 : decode kY_Reader_putToken.2.1 89 = .ok (.iconst 1, 1) := by decide +kernel
theorem d_Reader_putToken_90 : decode kY_Reader_putToken.2.1 90 = .ok (.iadd, 1) := by decide +kernel
theorem d_Reader_putToken_91 : decode kY_Reader_putToken.2.1 91 = .ok (.putfield 244, 3) := by decide +kernel
theorem d_Reader_putToken_94 : decode kY_Reader_putToken.2.1 94 = .ok (.return_, 1) := by decide +kernel
theorem d_Reader_putToken_69 : decode kY_Reader_putToken.2.1 69 = .ok (.aload_n 0, 1) := by decide +kernel
theorem d_Reader_putToken_70 : decode kY_Reader_putToken.2.1 70 = .ok (.iload_n 2, 1) := by decide +kernel
theorem d_Reader_putToken_71 : decode kY_Reader_putToken.2.1 71 = .ok (.iload_n 3, 1) := by decide +kernel
theorem d_Reader_putToken_72 : decode kY_Reader_putToken.2.1 72 = .ok (.invokevirtual 258, 3) := by decide +kernel
abbrev kY_Reader_numberValue : mj_Y := (⟨"TrustDesk$Reader", "numberValue", "(II)I"⟩, prog_10_method_36_code, 5, (Option.some Jvm.ClassFile.FieldType.int))
theorem d_Reader_numberValue_0 : decode kY_Reader_numberValue.2.1 0 = .ok (.iload_n 2, 1) := by decide +kernel
theorem d_Reader_numberValue_1 : decode kY_Reader_numberValue.2.1 1 = .ok (.iload_n 1, 1) := by decide +kernel
theorem d_Reader_numberValue_2 : decode kY_Reader_numberValue.2.1 2 = .ok (.isub, 1) := by decide +kernel
theorem d_Reader_numberValue_3 : decode kY_Reader_numberValue.2.1 3 = .ok (.iconst 4, 1) := by decide +kernel
theorem d_Reader_numberValue_4 : decode kY_Reader_numberValue.2.1 4 = .ok (.if_icmp .le 5, 3) := by decide +kernel
theorem d_Reader_numberValue_9 : decode kY_Reader_numberValue.2.1 9 = .ok (.iconst 0, 1) := by decide +kernel
theorem d_Reader_numberValue_10 : decode kY_Reader_numberValue.2.1 10 = .ok (.istore_n 3, 1) := by decide +kernel
theorem d_Reader_numberValue_11 : decode kY_Reader_numberValue.2.1 11 = .ok (.iload_n 1, 1) := by decide +kernel
theorem d_Reader_numberValue_12 : decode kY_Reader_numberValue.2.1 12 = .ok (.istore 4, 2) := by decide +kernel
theorem d_Reader_numberValue_14 : decode kY_Reader_numberValue.2.1 14 = .ok (.iload 4, 2) := by decide +kernel
theorem d_Reader_numberValue_16 : decode kY_Reader_numberValue.2.1 16 = .ok (.iload_n 2, 1) := by decide +kernel
theorem d_Reader_numberValue_17 : decode kY_Reader_numberValue.2.1 17 = .ok (.if_icmp .ge 24, 3) := by decide +kernel
theorem d_Reader_numberValue_41 : decode kY_Reader_numberValue.2.1 41 = .ok (.iload_n 3, 1) := by decide +kernel
theorem d_Reader_numberValue_42 : decode kY_Reader_numberValue.2.1 42 = .ok (.ireturn, 1) := by decide +kernel
theorem d_Reader_numberValue_20 : decode kY_Reader_numberValue.2.1 20 = .ok (.iload_n 3, 1) := by decide +kernel
theorem d_Reader_numberValue_21 : decode kY_Reader_numberValue.2.1 21 = .ok (.bipush 10, 2) := by decide +kernel
theorem d_Reader_numberValue_23 : decode kY_Reader_numberValue.2.1 23 = .ok (.imul, 1) := by decide +kernel
theorem d_Reader_numberValue_24 : decode kY_Reader_numberValue.2.1 24 = .ok (.aload_n 0, 1) := by decide +kernel
theorem d_Reader_numberValue_25 : decode kY_Reader_numberValue.2.1 25 = .ok (.iload 4, 2) := by decide +kernel
theorem d_Reader_numberValue_27 : decode kY_Reader_numberValue.2.1 27 = .ok (.invokevirtual 261, 3) := by decide +kernel
theorem d_Reader_numberValue_30 : decode kY_Reader_numberValue.2.1 30 = .ok (.iadd, 1) := by decide +kernel
theorem d_Reader_numberValue_31 : decode kY_Reader_numberValue.2.1 31 = .ok (.bipush 48, 2) := by decide +kernel
theorem d_Reader_numberValue_33 : decode kY_Reader_numberValue.2.1 33 = .ok (.isub, 1) := by decide +kernel
theorem d_Reader_numberValue_34 : decode kY_Reader_numberValue.2.1 34 = .ok (.istore_n 3, 1) := by decide +kernel
theorem d_Reader_numberValue_35 : decode kY_Reader_numberValue.2.1 35 = .ok (.iinc 4 1, 3) := by decide +kernel
theorem d_Reader_numberValue_38 : decode kY_Reader_numberValue.2.1 38 = .ok (.goto (-24), 3) := by decide +kernel
theorem d_Reader_numberValue_7 : decode kY_Reader_numberValue.2.1 7 = .ok (.iconst (-1), 1) := by decide +kernel
theorem d_Reader_numberValue_8 : decode kY_Reader_numberValue.2.1 8 = .ok (.ireturn, 1) := by decide +kernel
def w_Reader_numberValue : List Nat := []
theorem tc_Reader_numberValue {g : mj_G} {l : Launch} {d : Nat} {T0 : tm_H} {M0 : mj_M} {n0 x9 : Nat} {o0 : Nat} {x1 : Int32} {x2 : Int32} (h_o0 : T0 o0 = some (0, 9, 0)) (I0 : tm_I tm_FT (tm_in w_Reader_numberValue) x9 T0 M0 n0 T0 M0 n0) : mj_Met g l kY_Reader_numberValue (d + 1) [.ref o0, .int x1, .int x2] M0 n0 0 0 (tm_Q tm_FT (tm_in w_Reader_numberValue) x9 T0 M0 n0 (fun r _ _ => ∃ v : Int32, r = some (.int v))) := by
  refine mj_enter (by decide) (Nat.le_of_ble_eq_true rfl) ?_
  refine mv_iload_n d_Reader_numberValue_0 rfl rfl ?_
  refine mv_iload_n d_Reader_numberValue_1 rfl rfl ?_
  refine mv_isub d_Reader_numberValue_2 ?_
  refine mv_iconst (v := 4) d_Reader_numberValue_3 (by decide) ?_
  have := mz_hi (x2 - x1)
  refine mv_icmp_leZ (tgt := 9) (a := (x2 - x1).toInt) (b := 4) d_Reader_numberValue_4 (by decide) rfl (by decide) (fun b1 => ?_) (fun b1 => ?_)
  · refine mv_iconst (v := 0) d_Reader_numberValue_9 (by decide) ?_
    refine mv_istore_n (lv' := [(3, .int 0), (0, .ref o0), (1, .int x1), (2, .int x2)]) d_Reader_numberValue_10 rfl (by decide) rfl ?_
    refine mv_iload_n d_Reader_numberValue_11 rfl rfl ?_
    refine mv_istore (lv' := [(4, .int x1), (3, .int 0), (0, .ref o0), (1, .int x1), (2, .int x2)]) d_Reader_numberValue_12 (by decide) rfl ?_
    have L14_2 : ∀ (k : Nat) (i4_2 : Int32) (i3_2 : Int32) (T_2 : tm_H) (M_2 : mj_M) (n_2 : Nat), tm_I tm_FT (tm_in w_Reader_numberValue) x9 T0 M0 n0 T_2 M_2 n_2 → T_2 o0 = some (0, 9, 0) → 2147483647 - i4_2.toInt < (k : Int) → mj_V g l kY_Reader_numberValue (d + 1) 14 [(4, .int i4_2), (3, .int i3_2), (0, .ref o0), (1, .int x1), (2, .int x2)] [] M_2 n_2 0 0 (tm_Q tm_FT (tm_in w_Reader_numberValue) x9 T0 M0 n0 (fun r _ _ => ∃ v : Int32, r = some (.int v))) := by
      intro k2
      induction k2 with
      | zero =>
        intro i4_2 i3_2 T_2 M_2 n_2 I_2 h_q0_2 hk2
        have := mz_hi i4_2
        omega
      | succ k2 ih2 =>
        intro i4_2 i3_2 T_2 M_2 n_2 I_2 h_q0_2 hk2
        refine mv_iload d_Reader_numberValue_14 rfl ?_
        refine mv_iload_n d_Reader_numberValue_16 rfl rfl ?_
        have := mz_hi i4_2
        have := mz_hi x2
        refine mv_icmp_geZ (tgt := 41) (a := i4_2.toInt) (b := x2.toInt) d_Reader_numberValue_17 (by decide) rfl rfl (fun b3 => ?_) (fun b3 => ?_)
        · refine mv_iload_n d_Reader_numberValue_41 rfl rfl ?_
          exact mv_iret d_Reader_numberValue_42 rfl (by first | rfl | decide) ⟨_, I_2, _, rfl⟩
        · refine mv_iload_n d_Reader_numberValue_20 rfl rfl ?_
          refine mv_bipush (v := 10) d_Reader_numberValue_21 (by decide) ?_
          refine mv_imul d_Reader_numberValue_23 ?_
          refine mv_aload_n d_Reader_numberValue_24 rfl rfl ?_
          refine mv_iload d_Reader_numberValue_25 rfl ?_
          obtain ⟨_, b10, -⟩ := I_2.1 _ _ h_q0_2
          refine mv_callV (kc' := 0) (ks' := 0) (As := [.int i4_2]) (st9 := [.int i4_2, .ref o0, .int (i3_2 * 10)]) d_Reader_numberValue_27 lV_Reader_261 b10 rfl (tc_Reader_byteAt (d := d) (x9 := x9) (o0 := o0) (x1 := i4_2) h_q0_2 I_2.start) rfl (Nat.le_of_ble_eq_true rfl) (Nat.le_of_ble_eq_true rfl) (Nat.le_of_ble_eq_true rfl) (hst := rfl) (fun b4r M5 n6 b4 => ?_)
          obtain ⟨T7, J8, v11, rfl⟩ := b4
          have I9 := I_2.call J8 (tm_sub (by decide)) (Or.inl rfl)
          have t12 := J8.up h_q0_2
          refine mv_iadd d_Reader_numberValue_30 ?_
          refine mv_bipush (v := 48) d_Reader_numberValue_31 (by decide) ?_
          refine mv_isub d_Reader_numberValue_33 ?_
          refine mv_istore_n (lv' := [(3, .int (((i3_2 * 10) + v11) - 48)), (4, .int i4_2), (0, .ref o0), (1, .int x1), (2, .int x2)]) d_Reader_numberValue_34 rfl (by decide) rfl ?_
          refine mv_iinc (v := (i4_2 + 1)) (lv' := [(4, .int (i4_2 + 1)), (3, .int (((i3_2 * 10) + v11) - 48)), (0, .ref o0), (1, .int x1), (2, .int x2)]) d_Reader_numberValue_35 rfl rfl (by decide) rfl ?_
          refine mv_goto (tgt := 14) d_Reader_numberValue_38 (by decide) ?_
          have b13 : (i4_2 + 1).toInt = i4_2.toInt + 1 := mz_addn 1 1 (by decide) (by have := mz_lo i4_2; omega) (by have := mz_hi i4_2; omega)
          exact (ih2 (i4_2 + 1) (((i3_2 * 10) + v11) - 48) T7 M5 n6 I9 t12 (by omega))
    exact mv_less (Nat.zero_le _) (Nat.zero_le _) (L14_2 4294967296 x1 0 T0 M0 n0 I0 h_o0 (by have := mz_lo x1; omega))
  · refine mv_iconst (v := (-1)) d_Reader_numberValue_7 (by decide) ?_
    exact mv_iret d_Reader_numberValue_8 rfl (by first | rfl | decide) ⟨_, I0, _, rfl⟩
theorem lV_Reader_258 : mj_lV "TrustDesk$Reader" 258 kY_Reader_numberValue 2 := ⟨⟨(mj_in1 (List.mem_of_getElem? (i := 443) (by decide +kernel)) rfl), (mj_in1 (List.mem_of_getElem? (i := 3) (by decide +kernel)) rfl), (mj_in1 (List.mem_of_getElem? (i := 446) (by decide +kernel)) rfl), by decide, rfl, by decide⟩, (mj_in1 (List.mem_of_getElem? (i := 445) (by decide +kernel)) rfl), (mj_in (List.mem_append_left _ (List.mem_of_getElem? (i := 9) (by decide +kernel))) rfl)⟩
theorem d_Reader_putToken_75 : decode kY_Reader_putToken.2.1 75 = .ok (.goto 8, 3) := by decide +kernel
theorem d_Reader_putToken_55 : decode kY_Reader_putToken.2.1 55 = .ok (.aload_n 0, 1) := by decide +kernel
theorem d_Reader_putToken_56 : decode kY_Reader_putToken.2.1 56 = .ok (.iload_n 2, 1) := by decide +kernel
theorem d_Reader_putToken_57 : decode kY_Reader_putToken.2.1 57 = .ok (.iload_n 3, 1) := by decide +kernel
theorem d_Reader_putToken_58 : decode kY_Reader_putToken.2.1 58 = .ok (.invokevirtual 255, 3) := by decide +kernel
abbrev kY_Reader_wordValue : mj_Y := (⟨"TrustDesk$Reader", "wordValue", "(II)I"⟩, prog_10_method_35_code, 5, (Option.some Jvm.ClassFile.FieldType.int))
theorem d_Reader_wordValue_0 : decode kY_Reader_wordValue.2.1 0 = .ok (.aload_n 0, 1) := by decide +kernel
theorem d_Reader_wordValue_1 : decode kY_Reader_wordValue.2.1 1 = .ok (.ldc_w 264, 3) := by decide +kernel
theorem d_Reader_wordValue_4 : decode kY_Reader_wordValue.2.1 4 = .ok (.iload_n 1, 1) := by decide +kernel
theorem d_Reader_wordValue_5 : decode kY_Reader_wordValue.2.1 5 = .ok (.iload_n 2, 1) := by decide +kernel
theorem d_Reader_wordValue_6 : decode kY_Reader_wordValue.2.1 6 = .ok (.invokevirtual 266, 3) := by decide +kernel
abbrev kY_Reader_indexIn : mj_Y := (⟨"TrustDesk$Reader", "indexIn", "(Ljava/lang/String;II)I"⟩, prog_10_method_37_code, 7, (Option.some Jvm.ClassFile.FieldType.int))
theorem d_Reader_indexIn_0 : decode kY_Reader_indexIn.2.1 0 = .ok (.iconst 0, 1) := by decide +kernel
theorem d_Reader_indexIn_1 : decode kY_Reader_indexIn.2.1 1 = .ok (.istore 4, 2) := by decide +kernel
theorem d_Reader_indexIn_3 : decode kY_Reader_indexIn.2.1 3 = .ok (.iconst 0, 1) := by decide +kernel
theorem d_Reader_indexIn_4 : decode kY_Reader_indexIn.2.1 4 = .ok (.istore 5, 2) := by decide +kernel
theorem d_Reader_indexIn_6 : decode kY_Reader_indexIn.2.1 6 = .ok (.iconst 0, 1) := by decide +kernel
theorem d_Reader_indexIn_7 : decode kY_Reader_indexIn.2.1 7 = .ok (.istore 6, 2) := by decide +kernel
theorem d_Reader_indexIn_9 : decode kY_Reader_indexIn.2.1 9 = .ok (.iload 6, 2) := by decide +kernel
theorem d_Reader_indexIn_11 : decode kY_Reader_indexIn.2.1 11 = .ok (.aload_n 1, 1) := by decide +kernel
theorem d_Reader_indexIn_12 : decode kY_Reader_indexIn.2.1 12 = .ok (.invokevirtual 272, 3) := by decide +kernel
theorem lV_Reader_272 : mj_lV "TrustDesk$Reader" 272 kY_String_length 0 := ⟨⟨(mj_in1 (List.mem_of_getElem? (i := 390) (by decide +kernel)) rfl), (mj_in1 (List.mem_of_getElem? (i := 11) (by decide +kernel)) rfl), (mj_in1 (List.mem_of_getElem? (i := 393) (by decide +kernel)) rfl), by decide, rfl, by decide⟩, (mj_in1 (List.mem_of_getElem? (i := 391) (by decide +kernel)) rfl), (mj_in1 (List.mem_of_getElem? (i := 392) (by decide +kernel)) rfl)⟩
theorem d_Reader_indexIn_15 : decode kY_Reader_indexIn.2.1 15 = .ok (.if_icmp .gt 65, 3) := by decide +kernel
theorem d_Reader_indexIn_80 : decode kY_Reader_indexIn.2.1 80 = .ok (.iconst (-1), 1) := by decide +kernel
theorem d_Reader_indexIn_81 : decode kY_Reader_indexIn.2.1 81 = .ok (.ireturn, 1) := by decide +kernel
theorem d_Reader_indexIn_18 : decode kY_Reader_indexIn.2.1 18 = .ok (.iload 6, 2) := by decide +kernel
theorem d_Reader_indexIn_20 : decode kY_Reader_indexIn.2.1 20 = .ok (.aload_n 1, 1) := by decide +kernel
theorem d_Reader_indexIn_21 : decode kY_Reader_indexIn.2.1 21 = .ok (.invokevirtual 272, 3) := by decide +kernel
theorem d_Reader_indexIn_24 : decode kY_Reader_indexIn.2.1 24 = .ok (.if_icmp .eq 14, 3) := by decide +kernel
theorem d_Reader_indexIn_38 : decode kY_Reader_indexIn.2.1 38 = .ok (.iload 6, 2) := by decide +kernel
theorem d_Reader_indexIn_40 : decode kY_Reader_indexIn.2.1 40 = .ok (.iload 5, 2) := by decide +kernel
theorem d_Reader_indexIn_42 : decode kY_Reader_indexIn.2.1 42 = .ok (.isub, 1) := by decide +kernel
theorem d_Reader_indexIn_43 : decode kY_Reader_indexIn.2.1 43 = .ok (.iload_n 3, 1) := by decide +kernel
theorem d_Reader_indexIn_44 : decode kY_Reader_indexIn.2.1 44 = .ok (.iload_n 2, 1) := by decide +kernel
theorem d_Reader_indexIn_45 : decode kY_Reader_indexIn.2.1 45 = .ok (.isub, 1) := by decide +kernel
theorem d_Reader_indexIn_46 : decode kY_Reader_indexIn.2.1 46 = .ok (.if_icmp .ne 19, 3) := by decide +kernel
theorem d_Reader_indexIn_65 : decode kY_Reader_indexIn.2.1 65 = .ok (.iinc 4 1, 3) := by decide +kernel
theorem d_Reader_indexIn_68 : decode kY_Reader_indexIn.2.1 68 = .ok (.iload 6, 2) := by decide +kernel
theorem d_Reader_indexIn_70 : decode kY_Reader_indexIn.2.1 70 = .ok (.iconst 1, 1) := by decide +kernel
theorem d_Reader_indexIn_71 : decode kY_Reader_indexIn.2.1 71 = .ok (.iadd, 1) := by decide +kernel
theorem d_Reader_indexIn_72 : decode kY_Reader_indexIn.2.1 72 = .ok (.istore 5, 2) := by decide +kernel
theorem d_Reader_indexIn_74 : decode kY_Reader_indexIn.2.1 74 = .ok (.iinc 6 1, 3) := by decide +kernel
theorem d_Reader_indexIn_77 : decode kY_Reader_indexIn.2.1 77 = .ok (.goto (-68), 3) := by decide +kernel
theorem d_Reader_indexIn_49 : decode kY_Reader_indexIn.2.1 49 = .ok (.aload_n 0, 1) := by decide +kernel
theorem d_Reader_indexIn_50 : decode kY_Reader_indexIn.2.1 50 = .ok (.aload_n 1, 1) := by decide +kernel
theorem d_Reader_indexIn_51 : decode kY_Reader_indexIn.2.1 51 = .ok (.iload 5, 2) := by decide +kernel
theorem d_Reader_indexIn_53 : decode kY_Reader_indexIn.2.1 53 = .ok (.iload 6, 2) := by decide +kernel
theorem d_Reader_indexIn_55 : decode kY_Reader_indexIn.2.1 55 = .ok (.iload_n 2, 1) := by decide +kernel
theorem d_Reader_indexIn_56 : decode kY_Reader_indexIn.2.1 56 = .ok (.invokevirtual 281, 3) := by decide +kernel
abbrev kY_Reader_matches : mj_Y := (⟨"TrustDesk$Reader", "matches", "(Ljava/lang/String;III)Z"⟩, prog_10_method_38_code, 7, (Option.some Jvm.ClassFile.FieldType.boolean))
theorem d_Reader_matches_0 : decode kY_Reader_matches.2.1 0 = .ok (.iload_n 2, 1) := by decide +kernel
theorem d_Reader_matches_1 : decode kY_Reader_matches.2.1 1 = .ok (.istore 5, 2) := by decide +kernel
theorem d_Reader_matches_3 : decode kY_Reader_matches.2.1 3 = .ok (.iload 5, 2) := by decide +kernel
theorem d_Reader_matches_5 : decode kY_Reader_matches.2.1 5 = .ok (.ifCond .lt 64, 3) := by decide +kernel
theorem d_Reader_matches_69 : decode kY_Reader_matches.2.1 69 = .ok (.iconst 1, 1) := by decide +kernel
theorem d_Reader_matches_70 : decode kY_Reader_matches.2.1 70 = .ok (.ireturn, 1) := by decide +kernel
theorem d_Reader_matches_8 : decode kY_Reader_matches.2.1 8 = .ok (.iload 5, 2) := by decide +kernel
theorem d_Reader_matches_10 : decode kY_Reader_matches.2.1 10 = .ok (.iload_n 3, 1) := by decide +kernel
theorem d_Reader_matches_11 : decode kY_Reader_matches.2.1 11 = .ok (.if_icmp .ge 58, 3) := by decide +kernel
theorem d_Reader_matches_14 : decode kY_Reader_matches.2.1 14 = .ok (.iload 5, 2) := by decide +kernel
theorem d_Reader_matches_16 : decode kY_Reader_matches.2.1 16 = .ok (.aload_n 1, 1) := by decide +kernel
theorem d_Reader_matches_17 : decode kY_Reader_matches.2.1 17 = .ok (.invokevirtual 272, 3) := by decide +kernel
theorem d_Reader_matches_20 : decode kY_Reader_matches.2.1 20 = .ok (.if_icmp .ge 49, 3) := by decide +kernel
theorem d_Reader_matches_23 : decode kY_Reader_matches.2.1 23 = .ok (.iload 4, 2) := by decide +kernel
theorem d_Reader_matches_25 : decode kY_Reader_matches.2.1 25 = .ok (.iload 5, 2) := by decide +kernel
theorem d_Reader_matches_27 : decode kY_Reader_matches.2.1 27 = .ok (.iadd, 1) := by decide +kernel
theorem d_Reader_matches_28 : decode kY_Reader_matches.2.1 28 = .ok (.iload_n 2, 1) := by decide +kernel
theorem d_Reader_matches_29 : decode kY_Reader_matches.2.1 29 = .ok (.isub, 1) := by decide +kernel
theorem d_Reader_matches_30 : decode kY_Reader_matches.2.1 30 = .ok (.istore 6, 2) := by decide +kernel
theorem d_Reader_matches_32 : decode kY_Reader_matches.2.1 32 = .ok (.iload 6, 2) := by decide +kernel
theorem d_Reader_matches_34 : decode kY_Reader_matches.2.1 34 = .ok (.ifCond .lt 27, 3) := by decide +kernel
theorem d_Reader_matches_61 : decode kY_Reader_matches.2.1 61 = .ok (.iconst 0, 1) := by decide +kernel
theorem d_Reader_matches_62 : decode kY_Reader_matches.2.1 62 = .ok (.ireturn, 1) := by decide +kernel
theorem d_Reader_matches_37 : decode kY_Reader_matches.2.1 37 = .ok (.iload 6, 2) := by decide +kernel
theorem d_Reader_matches_39 : decode kY_Reader_matches.2.1 39 = .ok (.sipush 400, 3) := by decide +kernel
theorem d_Reader_matches_42 : decode kY_Reader_matches.2.1 42 = .ok (.if_icmp .ge 19, 3) := by decide +kernel
theorem d_Reader_matches_45 : decode kY_Reader_matches.2.1 45 = .ok (.aload_n 1, 1) := by decide +kernel
theorem d_Reader_matches_46 : decode kY_Reader_matches.2.1 46 = .ok (.iload 5, 2) := by decide +kernel
theorem d_Reader_matches_48 : decode kY_Reader_matches.2.1 48 = .ok (.invokevirtual 277, 3) := by decide +kernel
theorem lV_Reader_277 : mj_lV "TrustDesk$Reader" 277 kY_String_charAt 1 := ⟨⟨(mj_in1 (List.mem_of_getElem? (i := 400) (by decide +kernel)) rfl), (mj_in1 (List.mem_of_getElem? (i := 11) (by decide +kernel)) rfl), (mj_in1 (List.mem_of_getElem? (i := 403) (by decide +kernel)) rfl), by decide, rfl, by decide⟩, (mj_in1 (List.mem_of_getElem? (i := 401) (by decide +kernel)) rfl), (mj_in1 (List.mem_of_getElem? (i := 402) (by decide +kernel)) rfl)⟩
theorem d_Reader_matches_51 : decode kY_Reader_matches.2.1 51 = .ok (.aload_n 0, 1) := by decide +kernel
theorem d_Reader_matches_52 : decode kY_Reader_matches.2.1 52 = .ok (.getfield 15, 3) := by decide +kernel
theorem d_Reader_matches_55 : decode kY_Reader_matches.2.1 55 = .ok (.iload 6, 2) := by decide +kernel
theorem d_Reader_matches_57 : decode kY_Reader_matches.2.1 57 = .ok (.iaload, 1) := by decide +kernel
theorem d_Reader_matches_58 : decode kY_Reader_matches.2.1 58 = .ok (.if_icmp .eq 5, 3) := by decide +kernel
theorem d_Reader_matches_63 : decode kY_Reader_matches.2.1 63 = .ok (.iinc 5 1, 3) := by decide +kernel
theorem d_Reader_matches_66 : decode kY_Reader_matches.2.1 66 = .ok (.goto (-63), 3) := by decide +kernel
def w_Reader_matches_s1_10 : List Nat := []
theorem tc_Reader_matches_s1_10 {g : mj_G} {l : Launch} {d : Nat} {T0 : tm_H} {M0 : mj_M} {n0 x9 : Nat} {o0 : Nat} {x2 : Int32} {x3 : Int32} {x4 : Int32} (h_o0 : T0 o0 = some (0, 9, 0)) (I0 : tm_I tm_FT (tm_in w_Reader_matches_s1_10) x9 T0 M0 n0 T0 M0 n0) : mj_Met g l kY_Reader_matches (d + 4) [.ref o0, .ref 10, .int x2, .int x3, .int x4] M0 n0 0 0 (tm_Q tm_FT (tm_in w_Reader_matches_s1_10) x9 T0 M0 n0 (fun r _ _ => ∃ v : Int32, r = some (.int v) ∧ 0 ≤ v.toInt ∧ v.toInt ≤ 1)) := by
  refine mj_enter (by decide) (Nat.le_of_ble_eq_true rfl) ?_
  refine mv_iload_n d_Reader_matches_0 rfl rfl ?_
  refine mv_istore (lv' := [(5, .int x2), (0, .ref o0), (1, .ref 10), (2, .int x2), (3, .int x3), (4, .int x4)]) d_Reader_matches_1 (by decide) rfl ?_
  have L3_1 : ∀ (k : Nat) (i5_1 : Int32) (T_1 : tm_H) (M_1 : mj_M) (n_1 : Nat), tm_I tm_FT (tm_in w_Reader_matches_s1_10) x9 T0 M0 n0 T_1 M_1 n_1 → T_1 o0 = some (0, 9, 0) → 2147483647 - i5_1.toInt < (k : Int) → mj_V g l kY_Reader_matches (d + 4) 3 [(5, .int i5_1), (0, .ref o0), (1, .ref 10), (2, .int x2), (3, .int x3), (4, .int x4)] [] M_1 n_1 0 0 (tm_Q tm_FT (tm_in w_Reader_matches_s1_10) x9 T0 M0 n0 (fun r _ _ => ∃ v : Int32, r = some (.int v) ∧ 0 ≤ v.toInt ∧ v.toInt ≤ 1)) := by
    intro k1
    induction k1 with
    | zero =>
      intro i5_1 T_1 M_1 n_1 I_1 h_q0_1 hk1
      have := mz_hi i5_1
      omega
    | succ k1 ih1 =>
      intro i5_1 T_1 M_1 n_1 I_1 h_q0_1 hk1
      refine mv_iload d_Reader_matches_3 rfl ?_
      have := mz_hi i5_1
      refine mv_if_ltZ (tgt := 69) (a := i5_1.toInt) d_Reader_matches_5 (by decide) rfl (fun b2 => ?_) (fun b2 => ?_)
      · refine mv_iconst (v := 1) d_Reader_matches_69 (by decide) ?_
        exact mv_iret d_Reader_matches_70 rfl (by decide) ⟨_, I_1, _, rfl, by decide, by decide⟩
      · refine mv_iload d_Reader_matches_8 rfl ?_
        refine mv_iload_n d_Reader_matches_10 rfl rfl ?_
        have := mz_hi i5_1
        have := mz_hi x3
        refine mv_icmp_geZ (tgt := 69) (a := i5_1.toInt) (b := x3.toInt) d_Reader_matches_11 (by decide) rfl rfl (fun b3 => ?_) (fun b3 => ?_)
        · refine mv_iconst (v := 1) d_Reader_matches_69 (by decide) ?_
          exact mv_iret d_Reader_matches_70 rfl (by decide) ⟨_, I_1, _, rfl, by decide, by decide⟩
        · refine mv_iload d_Reader_matches_14 rfl ?_
          refine mv_aload_n d_Reader_matches_16 rfl rfl ?_
          refine mv_slenK (i := 0) (v := 71) d_Reader_matches_17 lV_Reader_272 (by decide) rfl (by decide) (Nat.le_of_ble_eq_true rfl) ?_
          have := mz_hi i5_1
          refine mv_icmp_geZ (tgt := 69) (a := i5_1.toInt) (b := 71) d_Reader_matches_20 (by decide) rfl (by decide) (fun b4 => ?_) (fun b4 => ?_)
          · refine mv_iconst (v := 1) d_Reader_matches_69 (by decide) ?_
            exact mv_iret d_Reader_matches_70 rfl (by decide) ⟨_, I_1, _, rfl, by decide, by decide⟩
          · refine mv_iload d_Reader_matches_23 rfl ?_
            refine mv_iload d_Reader_matches_25 rfl ?_
            refine mv_iadd d_Reader_matches_27 ?_
            refine mv_iload_n d_Reader_matches_28 rfl rfl ?_
            refine mv_isub d_Reader_matches_29 ?_
            refine mv_istore (lv' := [(6, .int ((x4 + i5_1) - x2)), (5, .int i5_1), (0, .ref o0), (1, .ref 10), (2, .int x2), (3, .int x3), (4, .int x4)]) d_Reader_matches_30 (by decide) rfl ?_
            refine mv_iload d_Reader_matches_32 rfl ?_
            have := mz_hi ((x4 + i5_1) - x2)
            refine mv_if_ltZ (tgt := 61) (a := ((x4 + i5_1) - x2).toInt) d_Reader_matches_34 (by decide) rfl (fun b5 => ?_) (fun b5 => ?_)
            · refine mv_iconst (v := 0) d_Reader_matches_61 (by decide) ?_
              exact mv_iret d_Reader_matches_62 rfl (by decide) ⟨_, I_1, _, rfl, by decide, by decide⟩
            · refine mv_iload d_Reader_matches_37 rfl ?_
              refine mv_sipush (v := 400) d_Reader_matches_39 (by decide) ?_
              have := mz_hi ((x4 + i5_1) - x2)
              refine mv_icmp_geZ (tgt := 61) (a := ((x4 + i5_1) - x2).toInt) (b := 400) d_Reader_matches_42 (by decide) rfl (by decide) (fun b6 => ?_) (fun b6 => ?_)
              · refine mv_iconst (v := 0) d_Reader_matches_61 (by decide) ?_
                exact mv_iret d_Reader_matches_62 rfl (by decide) ⟨_, I_1, _, rfl, by decide, by decide⟩
              · refine mv_aload_n d_Reader_matches_45 rfl rfl ?_
                refine mv_iload d_Reader_matches_46 rfl ?_
                refine mv_schN (i := 0) (N := 71) d_Reader_matches_48 lV_Reader_277 (by decide) rfl rfl (by omega) (by omega) (Nat.le_of_ble_eq_true rfl) (fun v7 => ?_)
                refine mv_aload_n d_Reader_matches_51 rfl rfl ?_
                obtain ⟨a9, q8, t_a9⟩ := tm_atR I_1 h_q0_1 (k := 3) rfl
                refine tr_getK q8 d_Reader_matches_52 f_Reader_15_9 ?_
                refine mv_iload d_Reader_matches_55 rfl ?_
                refine tr_iald I_1 t_a9 (by decide) d_Reader_matches_57 (vp_in_iff.mpr (by omega)) (fun v10 => ?_)
                have := mz_hi v7
                have := mz_hi v10
                refine mv_icmp_eqZ (tgt := 63) (a := v7.toInt) (b := v10.toInt) d_Reader_matches_58 (by decide) rfl rfl (fun b11 => ?_) (fun b11 => ?_)
                · refine mv_iinc (v := (i5_1 + 1)) (lv' := [(5, .int (i5_1 + 1)), (6, .int ((x4 + i5_1) - x2)), (0, .ref o0), (1, .ref 10), (2, .int x2), (3, .int x3), (4, .int x4)]) d_Reader_matches_63 rfl rfl (by decide) rfl ?_
                  refine mv_goto (tgt := 3) d_Reader_matches_66 (by decide) ?_
                  refine mv_locals (lv' := [(5, .int (i5_1 + 1)), (0, .ref o0), (1, .ref 10), (2, .int x2), (3, .int x3), (4, .int x4)]) (by intro q hq; simp only [List.mem_cons, List.not_mem_nil, or_false] at hq; rcases hq with rfl | rfl | rfl | rfl | rfl | rfl <;> rfl) ?_
                  have b12 : (i5_1 + 1).toInt = i5_1.toInt + 1 := mz_addn 1 1 (by decide) (by have := mz_lo i5_1; omega) (by have := mz_hi i5_1; omega)
                  exact (ih1 (i5_1 + 1) T_1 M_1 n_1 I_1 h_q0_1 (by omega))
                · refine mv_iconst (v := 0) d_Reader_matches_61 (by decide) ?_
                  exact mv_iret d_Reader_matches_62 rfl (by decide) ⟨_, I_1, _, rfl, by decide, by decide⟩
  exact mv_less (Nat.zero_le _) (Nat.zero_le _) (L3_1 4294967296 x2 T0 M0 n0 I0 h_o0 (by have := mz_lo x2; omega))
theorem lV_Reader_281 : mj_lV "TrustDesk$Reader" 281 kY_Reader_matches 4 := ⟨⟨(mj_in1 (List.mem_of_getElem? (i := 438) (by decide +kernel)) rfl), (mj_in1 (List.mem_of_getElem? (i := 3) (by decide +kernel)) rfl), (mj_in1 (List.mem_of_getElem? (i := 441) (by decide +kernel)) rfl), by decide, rfl, by decide⟩, (mj_in1 (List.mem_of_getElem? (i := 440) (by decide +kernel)) rfl), (mj_in (List.mem_append_left _ (List.mem_of_getElem? (i := 8) (by decide +kernel))) rfl)⟩
theorem d_Reader_indexIn_59 : decode kY_Reader_indexIn.2.1 59 = .ok (.ifCond .eq 6, 3) := by decide +kernel
theorem d_Reader_indexIn_62 : decode kY_Reader_indexIn.2.1 62 = .ok (.iload 4, 2) := by decide +kernel
theorem d_Reader_indexIn_64 : decode kY_Reader_indexIn.2.1 64 = .ok (.ireturn, 1) := by decide +kernel
theorem d_Reader_indexIn_27 : decode kY_Reader_indexIn.2.1 27 = .ok (.aload_n 1, 1) := by decide +kernel
theorem d_Reader_indexIn_28 : decode kY_Reader_indexIn.2.1 28 = .ok (.iload 6, 2) := by decide +kernel
theorem d_Reader_indexIn_30 : decode kY_Reader_indexIn.2.1 30 = .ok (.invokevirtual 277, 3) := by decide +kernel
theorem d_Reader_indexIn_33 : decode kY_Reader_indexIn.2.1 33 = .ok (.bipush 32, 2) := by decide +kernel
theorem d_Reader_indexIn_35 : decode kY_Reader_indexIn.2.1 35 = .ok (.if_icmp .ne 39, 3) := by decide +kernel
def w_Reader_indexIn_s1_10 : List Nat := []
theorem tc_Reader_indexIn_s1_10 {g : mj_G} {l : Launch} {d : Nat} {T0 : tm_H} {M0 : mj_M} {n0 x9 : Nat} {o0 : Nat} {x2 : Int32} {x3 : Int32} (h_o0 : T0 o0 = some (0, 9, 0)) (I0 : tm_I tm_FT (tm_in w_Reader_indexIn_s1_10) x9 T0 M0 n0 T0 M0 n0) : mj_Met g l kY_Reader_indexIn (d + 5) [.ref o0, .ref 10, .int x2, .int x3] M0 n0 0 0 (tm_Q tm_FT (tm_in w_Reader_indexIn_s1_10) x9 T0 M0 n0 (fun r _ _ => ∃ v : Int32, r = some (.int v))) := by
  refine mj_enter (by decide) (Nat.le_of_ble_eq_true rfl) ?_
  refine mv_iconst (v := 0) d_Reader_indexIn_0 (by decide) ?_
  refine mv_istore (lv' := [(4, .int 0), (0, .ref o0), (1, .ref 10), (2, .int x2), (3, .int x3)]) d_Reader_indexIn_1 (by decide) rfl ?_
  refine mv_iconst (v := 0) d_Reader_indexIn_3 (by decide) ?_
  refine mv_istore (lv' := [(5, .int 0), (4, .int 0), (0, .ref o0), (1, .ref 10), (2, .int x2), (3, .int x3)]) d_Reader_indexIn_4 (by decide) rfl ?_
  refine mv_iconst (v := 0) d_Reader_indexIn_6 (by decide) ?_
  refine mv_istore (lv' := [(6, .int 0), (5, .int 0), (4, .int 0), (0, .ref o0), (1, .ref 10), (2, .int x2), (3, .int x3)]) d_Reader_indexIn_7 (by decide) rfl ?_
  have L9_1 : ∀ (k : Nat) (i6_1 : Int32) (i5_1 : Int32) (i4_1 : Int32) (T_1 : tm_H) (M_1 : mj_M) (n_1 : Nat), tm_I tm_FT (tm_in w_Reader_indexIn_s1_10) x9 T0 M0 n0 T_1 M_1 n_1 → T_1 o0 = some (0, 9, 0) → 0 ≤ i6_1.toInt → 2147483647 - i6_1.toInt < (k : Int) → mj_V g l kY_Reader_indexIn (d + 5) 9 [(6, .int i6_1), (5, .int i5_1), (4, .int i4_1), (0, .ref o0), (1, .ref 10), (2, .int x2), (3, .int x3)] [] M_1 n_1 0 0 (tm_Q tm_FT (tm_in w_Reader_indexIn_s1_10) x9 T0 M0 n0 (fun r _ _ => ∃ v : Int32, r = some (.int v))) := by
    intro k1
    induction k1 with
    | zero =>
      intro i6_1 i5_1 i4_1 T_1 M_1 n_1 I_1 h_q0_1 iv0_1 hk1
      have := mz_hi i6_1
      omega
    | succ k1 ih1 =>
      intro i6_1 i5_1 i4_1 T_1 M_1 n_1 I_1 h_q0_1 iv0_1 hk1
      refine mv_iload d_Reader_indexIn_9 rfl ?_
      refine mv_aload_n d_Reader_indexIn_11 rfl rfl ?_
      refine mv_slenK (i := 0) (v := 71) d_Reader_indexIn_12 lV_Reader_272 (by decide) rfl (by decide) (Nat.le_of_ble_eq_true rfl) ?_
      have := mz_hi i6_1
      refine mv_icmp_gtZ (tgt := 80) (a := i6_1.toInt) (b := 71) d_Reader_indexIn_15 (by decide) rfl (by decide) (fun b2 => ?_) (fun b2 => ?_)
      · refine mv_iconst (v := (-1)) d_Reader_indexIn_80 (by decide) ?_
        exact mv_iret d_Reader_indexIn_81 rfl (by first | rfl | decide) ⟨_, I_1, _, rfl⟩
      · refine mv_iload d_Reader_indexIn_18 rfl ?_
        refine mv_aload_n d_Reader_indexIn_20 rfl rfl ?_
        refine mv_slenK (i := 0) (v := 71) d_Reader_indexIn_21 lV_Reader_272 (by decide) rfl (by decide) (Nat.le_of_ble_eq_true rfl) ?_
        have := mz_hi i6_1
        refine mv_icmp_eqZ (tgt := 38) (a := i6_1.toInt) (b := 71) d_Reader_indexIn_24 (by decide) rfl (by decide) (fun b3 => ?_) (fun b3 => ?_)
        · refine mv_iload d_Reader_indexIn_38 rfl ?_
          refine mv_iload d_Reader_indexIn_40 rfl ?_
          refine mv_isub d_Reader_indexIn_42 ?_
          refine mv_iload_n d_Reader_indexIn_43 rfl rfl ?_
          refine mv_iload_n d_Reader_indexIn_44 rfl rfl ?_
          refine mv_isub d_Reader_indexIn_45 ?_
          have := mz_hi (i6_1 - i5_1)
          have := mz_hi (x3 - x2)
          refine mv_icmp_neZ (tgt := 65) (a := (i6_1 - i5_1).toInt) (b := (x3 - x2).toInt) d_Reader_indexIn_46 (by decide) rfl rfl (fun b4 => ?_) (fun b4 => ?_)
          · refine mv_iinc (v := (i4_1 + 1)) (lv' := [(4, .int (i4_1 + 1)), (6, .int i6_1), (5, .int i5_1), (0, .ref o0), (1, .ref 10), (2, .int x2), (3, .int x3)]) d_Reader_indexIn_65 rfl rfl (by decide) rfl ?_
            refine mv_iload d_Reader_indexIn_68 rfl ?_
            refine mv_iconst (v := 1) d_Reader_indexIn_70 (by decide) ?_
            refine mv_iadd d_Reader_indexIn_71 ?_
            refine mv_istore (lv' := [(5, .int (i6_1 + 1)), (4, .int (i4_1 + 1)), (6, .int i6_1), (0, .ref o0), (1, .ref 10), (2, .int x2), (3, .int x3)]) d_Reader_indexIn_72 (by decide) rfl ?_
            refine mv_iinc (v := (i6_1 + 1)) (lv' := [(6, .int (i6_1 + 1)), (5, .int (i6_1 + 1)), (4, .int (i4_1 + 1)), (0, .ref o0), (1, .ref 10), (2, .int x2), (3, .int x3)]) d_Reader_indexIn_74 rfl rfl (by decide) rfl ?_
            refine mv_goto (tgt := 9) d_Reader_indexIn_77 (by decide) ?_
            have b5 : (i6_1 + 1).toInt = i6_1.toInt + 1 := mz_addn 1 1 (by decide) (by have := mz_lo i6_1; omega) (by have := mz_hi i6_1; omega)
            exact (ih1 (i6_1 + 1) (i6_1 + 1) (i4_1 + 1) T_1 M_1 n_1 I_1 h_q0_1 (by first | omega | decide) (by omega))
          · refine mv_aload_n d_Reader_indexIn_49 rfl rfl ?_
            refine mv_aload_n d_Reader_indexIn_50 rfl rfl ?_
            refine mv_iload d_Reader_indexIn_51 rfl ?_
            refine mv_iload d_Reader_indexIn_53 rfl ?_
            refine mv_iload_n d_Reader_indexIn_55 rfl rfl ?_
            obtain ⟨_, b12, -⟩ := I_1.1 _ _ h_q0_1
            refine mv_callV (kc' := 0) (ks' := 0) (As := [.ref 10, .int i5_1, .int i6_1, .int x2]) (st9 := [.int x2, .int i6_1, .int i5_1, .ref 10, .ref o0]) d_Reader_indexIn_56 lV_Reader_281 b12 rfl (tc_Reader_matches_s1_10 (d := d) (x9 := x9) (o0 := o0) (x2 := i5_1) (x3 := i6_1) (x4 := x2) h_q0_1 I_1.start) rfl (Nat.le_of_ble_eq_true rfl) (Nat.le_of_ble_eq_true rfl) (Nat.le_of_ble_eq_true rfl) (hst := rfl) (fun b6r M7 n8 b6 => ?_)
            obtain ⟨T9, J10, v13, rfl, b14, b15⟩ := b6
            have I11 := I_1.call J10 (tm_sub (by decide)) (Or.inl rfl)
            have t16 := J10.up h_q0_1
            have := mz_hi v13
            refine mv_if_eqZ (tgt := 65) (a := v13.toInt) d_Reader_indexIn_59 (by decide) rfl (fun b17 => ?_) (fun b17 => ?_)
            · refine mv_iinc (v := (i4_1 + 1)) (lv' := [(4, .int (i4_1 + 1)), (6, .int i6_1), (5, .int i5_1), (0, .ref o0), (1, .ref 10), (2, .int x2), (3, .int x3)]) d_Reader_indexIn_65 rfl rfl (by decide) rfl ?_
              refine mv_iload d_Reader_indexIn_68 rfl ?_
              refine mv_iconst (v := 1) d_Reader_indexIn_70 (by decide) ?_
              refine mv_iadd d_Reader_indexIn_71 ?_
              refine mv_istore (lv' := [(5, .int (i6_1 + 1)), (4, .int (i4_1 + 1)), (6, .int i6_1), (0, .ref o0), (1, .ref 10), (2, .int x2), (3, .int x3)]) d_Reader_indexIn_72 (by decide) rfl ?_
              refine mv_iinc (v := (i6_1 + 1)) (lv' := [(6, .int (i6_1 + 1)), (5, .int (i6_1 + 1)), (4, .int (i4_1 + 1)), (0, .ref o0), (1, .ref 10), (2, .int x2), (3, .int x3)]) d_Reader_indexIn_74 rfl rfl (by decide) rfl ?_
              refine mv_goto (tgt := 9) d_Reader_indexIn_77 (by decide) ?_
              have b18 : (i6_1 + 1).toInt = i6_1.toInt + 1 := mz_addn 1 1 (by decide) (by have := mz_lo i6_1; omega) (by have := mz_hi i6_1; omega)
              exact (ih1 (i6_1 + 1) (i6_1 + 1) (i4_1 + 1) T9 M7 n8 I11 t16 (by first | omega | decide) (by omega))
            · refine mv_iload d_Reader_indexIn_62 rfl ?_
              exact mv_iret d_Reader_indexIn_64 rfl (by first | rfl | decide) ⟨_, I11, _, rfl⟩
        · refine mv_aload_n d_Reader_indexIn_27 rfl rfl ?_
          refine mv_iload d_Reader_indexIn_28 rfl ?_
          refine mv_schN (i := 0) (N := 71) d_Reader_indexIn_30 lV_Reader_277 (by decide) rfl rfl (by omega) (by omega) (Nat.le_of_ble_eq_true rfl) (fun v19 => ?_)
          refine mv_bipush (v := 32) d_Reader_indexIn_33 (by decide) ?_
          have := mz_hi v19
          refine mv_icmp_neZ (tgt := 74) (a := v19.toInt) (b := 32) d_Reader_indexIn_35 (by decide) rfl (by decide) (fun b20 => ?_) (fun b20 => ?_)
          · refine mv_iinc (v := (i6_1 + 1)) (lv' := [(6, .int (i6_1 + 1)), (5, .int i5_1), (4, .int i4_1), (0, .ref o0), (1, .ref 10), (2, .int x2), (3, .int x3)]) d_Reader_indexIn_74 rfl rfl (by decide) rfl ?_
            refine mv_goto (tgt := 9) d_Reader_indexIn_77 (by decide) ?_
            have b21 : (i6_1 + 1).toInt = i6_1.toInt + 1 := mz_addn 1 1 (by decide) (by have := mz_lo i6_1; omega) (by have := mz_hi i6_1; omega)
            exact (ih1 (i6_1 + 1) i5_1 i4_1 T_1 M_1 n_1 I_1 h_q0_1 (by first | omega | decide) (by omega))
          · refine mv_iload d_Reader_indexIn_38 rfl ?_
            refine mv_iload d_Reader_indexIn_40 rfl ?_
            refine mv_isub d_Reader_indexIn_42 ?_
            refine mv_iload_n d_Reader_indexIn_43 rfl rfl ?_
            refine mv_iload_n d_Reader_indexIn_44 rfl rfl ?_
            refine mv_isub d_Reader_indexIn_45 ?_
            have := mz_hi (i6_1 - i5_1)
            have := mz_hi (x3 - x2)
            refine mv_icmp_neZ (tgt := 65) (a := (i6_1 - i5_1).toInt) (b := (x3 - x2).toInt) d_Reader_indexIn_46 (by decide) rfl rfl (fun b22 => ?_) (fun b22 => ?_)
            · refine mv_iinc (v := (i4_1 + 1)) (lv' := [(4, .int (i4_1 + 1)), (6, .int i6_1), (5, .int i5_1), (0, .ref o0), (1, .ref 10), (2, .int x2), (3, .int x3)]) d_Reader_indexIn_65 rfl rfl (by decide) rfl ?_
              refine mv_iload d_Reader_indexIn_68 rfl ?_
              refine mv_iconst (v := 1) d_Reader_indexIn_70 (by decide) ?_
              refine mv_iadd d_Reader_indexIn_71 ?_
              refine mv_istore (lv' := [(5, .int (i6_1 + 1)), (4, .int (i4_1 + 1)), (6, .int i6_1), (0, .ref o0), (1, .ref 10), (2, .int x2), (3, .int x3)]) d_Reader_indexIn_72 (by decide) rfl ?_
              refine mv_iinc (v := (i6_1 + 1)) (lv' := [(6, .int (i6_1 + 1)), (5, .int (i6_1 + 1)), (4, .int (i4_1 + 1)), (0, .ref o0), (1, .ref 10), (2, .int x2), (3, .int x3)]) d_Reader_indexIn_74 rfl rfl (by decide) rfl ?_
              refine mv_goto (tgt := 9) d_Reader_indexIn_77 (by decide) ?_
              have b23 : (i6_1 + 1).toInt = i6_1.toInt + 1 := mz_addn 1 1 (by decide) (by have := mz_lo i6_1; omega) (by have := mz_hi i6_1; omega)
              exact (ih1 (i6_1 + 1) (i6_1 + 1) (i4_1 + 1) T_1 M_1 n_1 I_1 h_q0_1 (by first | omega | decide) (by omega))
            · refine mv_aload_n d_Reader_indexIn_49 rfl rfl ?_
              refine mv_aload_n d_Reader_indexIn_50 rfl rfl ?_
              refine mv_iload d_Reader_indexIn_51 rfl ?_
              refine mv_iload d_Reader_indexIn_53 rfl ?_
              refine mv_iload_n d_Reader_indexIn_55 rfl rfl ?_
              obtain ⟨_, b30, -⟩ := I_1.1 _ _ h_q0_1
              refine mv_callV (kc' := 0) (ks' := 0) (As := [.ref 10, .int i5_1, .int i6_1, .int x2]) (st9 := [.int x2, .int i6_1, .int i5_1, .ref 10, .ref o0]) d_Reader_indexIn_56 lV_Reader_281 b30 rfl (tc_Reader_matches_s1_10 (d := d) (x9 := x9) (o0 := o0) (x2 := i5_1) (x3 := i6_1) (x4 := x2) h_q0_1 I_1.start) rfl (Nat.le_of_ble_eq_true rfl) (Nat.le_of_ble_eq_true rfl) (Nat.le_of_ble_eq_true rfl) (hst := rfl) (fun b24r M25 n26 b24 => ?_)
              obtain ⟨T27, J28, v31, rfl, b32, b33⟩ := b24
              have I29 := I_1.call J28 (tm_sub (by decide)) (Or.inl rfl)
              have t34 := J28.up h_q0_1
              have := mz_hi v31
              refine mv_if_eqZ (tgt := 65) (a := v31.toInt) d_Reader_indexIn_59 (by decide) rfl (fun b35 => ?_) (fun b35 => ?_)
              · refine mv_iinc (v := (i4_1 + 1)) (lv' := [(4, .int (i4_1 + 1)), (6, .int i6_1), (5, .int i5_1), (0, .ref o0), (1, .ref 10), (2, .int x2), (3, .int x3)]) d_Reader_indexIn_65 rfl rfl (by decide) rfl ?_
                refine mv_iload d_Reader_indexIn_68 rfl ?_
                refine mv_iconst (v := 1) d_Reader_indexIn_70 (by decide) ?_
                refine mv_iadd d_Reader_indexIn_71 ?_
                refine mv_istore (lv' := [(5, .int (i6_1 + 1)), (4, .int (i4_1 + 1)), (6, .int i6_1), (0, .ref o0), (1, .ref 10), (2, .int x2), (3, .int x3)]) d_Reader_indexIn_72 (by decide) rfl ?_
                refine mv_iinc (v := (i6_1 + 1)) (lv' := [(6, .int (i6_1 + 1)), (5, .int (i6_1 + 1)), (4, .int (i4_1 + 1)), (0, .ref o0), (1, .ref 10), (2, .int x2), (3, .int x3)]) d_Reader_indexIn_74 rfl rfl (by decide) rfl ?_
                refine mv_goto (tgt := 9) d_Reader_indexIn_77 (by decide) ?_
                have b36 : (i6_1 + 1).toInt = i6_1.toInt + 1 := mz_addn 1 1 (by decide) (by have := mz_lo i6_1; omega) (by have := mz_hi i6_1; omega)
                exact (ih1 (i6_1 + 1) (i6_1 + 1) (i4_1 + 1) T27 M25 n26 I29 t34 (by first | omega | decide) (by omega))
              · refine mv_iload d_Reader_indexIn_62 rfl ?_
                exact mv_iret d_Reader_indexIn_64 rfl (by first | rfl | decide) ⟨_, I29, _, rfl⟩
  exact mv_less (Nat.zero_le _) (Nat.zero_le _) (L9_1 4294967296 0 0 0 T0 M0 n0 I0 h_o0 (by first | omega | decide) (by show (2147483647 - (0 : Int) : Int) < _; decide))
theorem lV_Reader_266 : mj_lV "TrustDesk$Reader" 266 kY_Reader_indexIn 3 := ⟨⟨(mj_in1 (List.mem_of_getElem? (i := 386) (by decide +kernel)) rfl), (mj_in1 (List.mem_of_getElem? (i := 3) (by decide +kernel)) rfl), (mj_in1 (List.mem_of_getElem? (i := 389) (by decide +kernel)) rfl), by decide, rfl, by decide⟩, (mj_in1 (List.mem_of_getElem? (i := 388) (by decide +kernel)) rfl), (mj_in (List.mem_append_left _ (List.mem_of_getElem? (i := 7) (by decide +kernel))) rfl)⟩
theorem d_Reader_wordValue_9 : decode kY_Reader_wordValue.2.1 9 = .ok (.istore_n 3, 1) := by decide +kernel
theorem d_Reader_wordValue_10 : decode kY_Reader_wordValue.2.1 10 = .ok (.iload_n 3, 1) := by decide +kernel
theorem d_Reader_wordValue_11 : decode kY_Reader_wordValue.2.1 11 = .ok (.iconst (-1), 1) := by decide +kernel
theorem d_Reader_wordValue_12 : decode kY_Reader_wordValue.2.1 12 = .ok (.if_icmp .eq 5, 3) := by decide +kernel
theorem d_Reader_wordValue_17 : decode kY_Reader_wordValue.2.1 17 = .ok (.aload_n 0, 1) := by decide +kernel
theorem d_Reader_wordValue_18 : decode kY_Reader_wordValue.2.1 18 = .ok (.ldc_w 270, 3) := by decide +kernel
theorem d_Reader_wordValue_21 : decode kY_Reader_wordValue.2.1 21 = .ok (.iload_n 1, 1) := by decide +kernel
theorem d_Reader_wordValue_22 : decode kY_Reader_wordValue.2.1 22 = .ok (.iload_n 2, 1) := by decide +kernel
theorem d_Reader_wordValue_23 : decode kY_Reader_wordValue.2.1 23 = .ok (.invokevirtual 266, 3) := by decide +kernel
def w_Reader_matches_s1_11 : List Nat := []
theorem tc_Reader_matches_s1_11 {g : mj_G} {l : Launch} {d : Nat} {T0 : tm_H} {M0 : mj_M} {n0 x9 : Nat} {o0 : Nat} {x2 : Int32} {x3 : Int32} {x4 : Int32} (h_o0 : T0 o0 = some (0, 9, 0)) (I0 : tm_I tm_FT (tm_in w_Reader_matches_s1_11) x9 T0 M0 n0 T0 M0 n0) : mj_Met g l kY_Reader_matches (d + 4) [.ref o0, .ref 11, .int x2, .int x3, .int x4] M0 n0 0 0 (tm_Q tm_FT (tm_in w_Reader_matches_s1_11) x9 T0 M0 n0 (fun r _ _ => ∃ v : Int32, r = some (.int v) ∧ 0 ≤ v.toInt ∧ v.toInt ≤ 1)) := by
  refine mj_enter (by decide) (Nat.le_of_ble_eq_true rfl) ?_
  refine mv_iload_n d_Reader_matches_0 rfl rfl ?_
  refine mv_istore (lv' := [(5, .int x2), (0, .ref o0), (1, .ref 11), (2, .int x2), (3, .int x3), (4, .int x4)]) d_Reader_matches_1 (by decide) rfl ?_
  have L3_1 : ∀ (k : Nat) (i5_1 : Int32) (T_1 : tm_H) (M_1 : mj_M) (n_1 : Nat), tm_I tm_FT (tm_in w_Reader_matches_s1_11) x9 T0 M0 n0 T_1 M_1 n_1 → T_1 o0 = some (0, 9, 0) → 2147483647 - i5_1.toInt < (k : Int) → mj_V g l kY_Reader_matches (d + 4) 3 [(5, .int i5_1), (0, .ref o0), (1, .ref 11), (2, .int x2), (3, .int x3), (4, .int x4)] [] M_1 n_1 0 0 (tm_Q tm_FT (tm_in w_Reader_matches_s1_11) x9 T0 M0 n0 (fun r _ _ => ∃ v : Int32, r = some (.int v) ∧ 0 ≤ v.toInt ∧ v.toInt ≤ 1)) := by
    intro k1
    induction k1 with
    | zero =>
      intro i5_1 T_1 M_1 n_1 I_1 h_q0_1 hk1
      have := mz_hi i5_1
      omega
    | succ k1 ih1 =>
      intro i5_1 T_1 M_1 n_1 I_1 h_q0_1 hk1
      refine mv_iload d_Reader_matches_3 rfl ?_
      have := mz_hi i5_1
      refine mv_if_ltZ (tgt := 69) (a := i5_1.toInt) d_Reader_matches_5 (by decide) rfl (fun b2 => ?_) (fun b2 => ?_)
      · refine mv_iconst (v := 1) d_Reader_matches_69 (by decide) ?_
        exact mv_iret d_Reader_matches_70 rfl (by decide) ⟨_, I_1, _, rfl, by decide, by decide⟩
      · refine mv_iload d_Reader_matches_8 rfl ?_
        refine mv_iload_n d_Reader_matches_10 rfl rfl ?_
        have := mz_hi i5_1
        have := mz_hi x3
        refine mv_icmp_geZ (tgt := 69) (a := i5_1.toInt) (b := x3.toInt) d_Reader_matches_11 (by decide) rfl rfl (fun b3 => ?_) (fun b3 => ?_)
        · refine mv_iconst (v := 1) d_Reader_matches_69 (by decide) ?_
          exact mv_iret d_Reader_matches_70 rfl (by decide) ⟨_, I_1, _, rfl, by decide, by decide⟩
        · refine mv_iload d_Reader_matches_14 rfl ?_
          refine mv_aload_n d_Reader_matches_16 rfl rfl ?_
          refine mv_slenK (i := 1) (v := 94) d_Reader_matches_17 lV_Reader_272 (by decide) rfl (by decide) (Nat.le_of_ble_eq_true rfl) ?_
          have := mz_hi i5_1
          refine mv_icmp_geZ (tgt := 69) (a := i5_1.toInt) (b := 94) d_Reader_matches_20 (by decide) rfl (by decide) (fun b4 => ?_) (fun b4 => ?_)
          · refine mv_iconst (v := 1) d_Reader_matches_69 (by decide) ?_
            exact mv_iret d_Reader_matches_70 rfl (by decide) ⟨_, I_1, _, rfl, by decide, by decide⟩
          · refine mv_iload d_Reader_matches_23 rfl ?_
            refine mv_iload d_Reader_matches_25 rfl ?_
            refine mv_iadd d_Reader_matches_27 ?_
            refine mv_iload_n d_Reader_matches_28 rfl rfl ?_
            refine mv_isub d_Reader_matches_29 ?_
            refine mv_istore (lv' := [(6, .int ((x4 + i5_1) - x2)), (5, .int i5_1), (0, .ref o0), (1, .ref 11), (2, .int x2), (3, .int x3), (4, .int x4)]) d_Reader_matches_30 (by decide) rfl ?_
            refine mv_iload d_Reader_matches_32 rfl ?_
            have := mz_hi ((x4 + i5_1) - x2)
            refine mv_if_ltZ (tgt := 61) (a := ((x4 + i5_1) - x2).toInt) d_Reader_matches_34 (by decide) rfl (fun b5 => ?_) (fun b5 => ?_)
            · refine mv_iconst (v := 0) d_Reader_matches_61 (by decide) ?_
              exact mv_iret d_Reader_matches_62 rfl (by decide) ⟨_, I_1, _, rfl, by decide, by decide⟩
            · refine mv_iload d_Reader_matches_37 rfl ?_
              refine mv_sipush (v := 400) d_Reader_matches_39 (by decide) ?_
              have := mz_hi ((x4 + i5_1) - x2)
              refine mv_icmp_geZ (tgt := 61) (a := ((x4 + i5_1) - x2).toInt) (b := 400) d_Reader_matches_42 (by decide) rfl (by decide) (fun b6 => ?_) (fun b6 => ?_)
              · refine mv_iconst (v := 0) d_Reader_matches_61 (by decide) ?_
                exact mv_iret d_Reader_matches_62 rfl (by decide) ⟨_, I_1, _, rfl, by decide, by decide⟩
              · refine mv_aload_n d_Reader_matches_45 rfl rfl ?_
                refine mv_iload d_Reader_matches_46 rfl ?_
                refine mv_schN (i := 1) (N := 94) d_Reader_matches_48 lV_Reader_277 (by decide) rfl rfl (by omega) (by omega) (Nat.le_of_ble_eq_true rfl) (fun v7 => ?_)
                refine mv_aload_n d_Reader_matches_51 rfl rfl ?_
                obtain ⟨a9, q8, t_a9⟩ := tm_atR I_1 h_q0_1 (k := 3) rfl
                refine tr_getK q8 d_Reader_matches_52 f_Reader_15_9 ?_
                refine mv_iload d_Reader_matches_55 rfl ?_
                refine tr_iald I_1 t_a9 (by decide) d_Reader_matches_57 (vp_in_iff.mpr (by omega)) (fun v10 => ?_)
                have := mz_hi v7
                have := mz_hi v10
                refine mv_icmp_eqZ (tgt := 63) (a := v7.toInt) (b := v10.toInt) d_Reader_matches_58 (by decide) rfl rfl (fun b11 => ?_) (fun b11 => ?_)
                · refine mv_iinc (v := (i5_1 + 1)) (lv' := [(5, .int (i5_1 + 1)), (6, .int ((x4 + i5_1) - x2)), (0, .ref o0), (1, .ref 11), (2, .int x2), (3, .int x3), (4, .int x4)]) d_Reader_matches_63 rfl rfl (by decide) rfl ?_
                  refine mv_goto (tgt := 3) d_Reader_matches_66 (by decide) ?_
                  refine mv_locals (lv' := [(5, .int (i5_1 + 1)), (0, .ref o0), (1, .ref 11), (2, .int x2), (3, .int x3), (4, .int x4)]) (by intro q hq; simp only [List.mem_cons, List.not_mem_nil, or_false] at hq; rcases hq with rfl | rfl | rfl | rfl | rfl | rfl <;> rfl) ?_
                  have b12 : (i5_1 + 1).toInt = i5_1.toInt + 1 := mz_addn 1 1 (by decide) (by have := mz_lo i5_1; omega) (by have := mz_hi i5_1; omega)
                  exact (ih1 (i5_1 + 1) T_1 M_1 n_1 I_1 h_q0_1 (by omega))
                · refine mv_iconst (v := 0) d_Reader_matches_61 (by decide) ?_
                  exact mv_iret d_Reader_matches_62 rfl (by decide) ⟨_, I_1, _, rfl, by decide, by decide⟩
  exact mv_less (Nat.zero_le _) (Nat.zero_le _) (L3_1 4294967296 x2 T0 M0 n0 I0 h_o0 (by have := mz_lo x2; omega))
def w_Reader_indexIn_s1_11 : List Nat := []
theorem tc_Reader_indexIn_s1_11 {g : mj_G} {l : Launch} {d : Nat} {T0 : tm_H} {M0 : mj_M} {n0 x9 : Nat} {o0 : Nat} {x2 : Int32} {x3 : Int32} (h_o0 : T0 o0 = some (0, 9, 0)) (I0 : tm_I tm_FT (tm_in w_Reader_indexIn_s1_11) x9 T0 M0 n0 T0 M0 n0) : mj_Met g l kY_Reader_indexIn (d + 5) [.ref o0, .ref 11, .int x2, .int x3] M0 n0 0 0 (tm_Q tm_FT (tm_in w_Reader_indexIn_s1_11) x9 T0 M0 n0 (fun r _ _ => ∃ v : Int32, r = some (.int v))) := by
  refine mj_enter (by decide) (Nat.le_of_ble_eq_true rfl) ?_
  refine mv_iconst (v := 0) d_Reader_indexIn_0 (by decide) ?_
  refine mv_istore (lv' := [(4, .int 0), (0, .ref o0), (1, .ref 11), (2, .int x2), (3, .int x3)]) d_Reader_indexIn_1 (by decide) rfl ?_
  refine mv_iconst (v := 0) d_Reader_indexIn_3 (by decide) ?_
  refine mv_istore (lv' := [(5, .int 0), (4, .int 0), (0, .ref o0), (1, .ref 11), (2, .int x2), (3, .int x3)]) d_Reader_indexIn_4 (by decide) rfl ?_
  refine mv_iconst (v := 0) d_Reader_indexIn_6 (by decide) ?_
  refine mv_istore (lv' := [(6, .int 0), (5, .int 0), (4, .int 0), (0, .ref o0), (1, .ref 11), (2, .int x2), (3, .int x3)]) d_Reader_indexIn_7 (by decide) rfl ?_
  have L9_1 : ∀ (k : Nat) (i6_1 : Int32) (i5_1 : Int32) (i4_1 : Int32) (T_1 : tm_H) (M_1 : mj_M) (n_1 : Nat), tm_I tm_FT (tm_in w_Reader_indexIn_s1_11) x9 T0 M0 n0 T_1 M_1 n_1 → T_1 o0 = some (0, 9, 0) → 0 ≤ i6_1.toInt → 2147483647 - i6_1.toInt < (k : Int) → mj_V g l kY_Reader_indexIn (d + 5) 9 [(6, .int i6_1), (5, .int i5_1), (4, .int i4_1), (0, .ref o0), (1, .ref 11), (2, .int x2), (3, .int x3)] [] M_1 n_1 0 0 (tm_Q tm_FT (tm_in w_Reader_indexIn_s1_11) x9 T0 M0 n0 (fun r _ _ => ∃ v : Int32, r = some (.int v))) := by
    intro k1
    induction k1 with
    | zero =>
      intro i6_1 i5_1 i4_1 T_1 M_1 n_1 I_1 h_q0_1 iv0_1 hk1
      have := mz_hi i6_1
      omega
    | succ k1 ih1 =>
      intro i6_1 i5_1 i4_1 T_1 M_1 n_1 I_1 h_q0_1 iv0_1 hk1
      refine mv_iload d_Reader_indexIn_9 rfl ?_
      refine mv_aload_n d_Reader_indexIn_11 rfl rfl ?_
      refine mv_slenK (i := 1) (v := 94) d_Reader_indexIn_12 lV_Reader_272 (by decide) rfl (by decide) (Nat.le_of_ble_eq_true rfl) ?_
      have := mz_hi i6_1
      refine mv_icmp_gtZ (tgt := 80) (a := i6_1.toInt) (b := 94) d_Reader_indexIn_15 (by decide) rfl (by decide) (fun b2 => ?_) (fun b2 => ?_)
      · refine mv_iconst (v := (-1)) d_Reader_indexIn_80 (by decide) ?_
        exact mv_iret d_Reader_indexIn_81 rfl (by first | rfl | decide) ⟨_, I_1, _, rfl⟩
      · refine mv_iload d_Reader_indexIn_18 rfl ?_
        refine mv_aload_n d_Reader_indexIn_20 rfl rfl ?_
        refine mv_slenK (i := 1) (v := 94) d_Reader_indexIn_21 lV_Reader_272 (by decide) rfl (by decide) (Nat.le_of_ble_eq_true rfl) ?_
        have := mz_hi i6_1
        refine mv_icmp_eqZ (tgt := 38) (a := i6_1.toInt) (b := 94) d_Reader_indexIn_24 (by decide) rfl (by decide) (fun b3 => ?_) (fun b3 => ?_)
        · refine mv_iload d_Reader_indexIn_38 rfl ?_
          refine mv_iload d_Reader_indexIn_40 rfl ?_
          refine mv_isub d_Reader_indexIn_42 ?_
          refine mv_iload_n d_Reader_indexIn_43 rfl rfl ?_
          refine mv_iload_n d_Reader_indexIn_44 rfl rfl ?_
          refine mv_isub d_Reader_indexIn_45 ?_
          have := mz_hi (i6_1 - i5_1)
          have := mz_hi (x3 - x2)
          refine mv_icmp_neZ (tgt := 65) (a := (i6_1 - i5_1).toInt) (b := (x3 - x2).toInt) d_Reader_indexIn_46 (by decide) rfl rfl (fun b4 => ?_) (fun b4 => ?_)
          · refine mv_iinc (v := (i4_1 + 1)) (lv' := [(4, .int (i4_1 + 1)), (6, .int i6_1), (5, .int i5_1), (0, .ref o0), (1, .ref 11), (2, .int x2), (3, .int x3)]) d_Reader_indexIn_65 rfl rfl (by decide) rfl ?_
            refine mv_iload d_Reader_indexIn_68 rfl ?_
            refine mv_iconst (v := 1) d_Reader_indexIn_70 (by decide) ?_
            refine mv_iadd d_Reader_indexIn_71 ?_
            refine mv_istore (lv' := [(5, .int (i6_1 + 1)), (4, .int (i4_1 + 1)), (6, .int i6_1), (0, .ref o0), (1, .ref 11), (2, .int x2), (3, .int x3)]) d_Reader_indexIn_72 (by decide) rfl ?_
            refine mv_iinc (v := (i6_1 + 1)) (lv' := [(6, .int (i6_1 + 1)), (5, .int (i6_1 + 1)), (4, .int (i4_1 + 1)), (0, .ref o0), (1, .ref 11), (2, .int x2), (3, .int x3)]) d_Reader_indexIn_74 rfl rfl (by decide) rfl ?_
            refine mv_goto (tgt := 9) d_Reader_indexIn_77 (by decide) ?_
            have b5 : (i6_1 + 1).toInt = i6_1.toInt + 1 := mz_addn 1 1 (by decide) (by have := mz_lo i6_1; omega) (by have := mz_hi i6_1; omega)
            exact (ih1 (i6_1 + 1) (i6_1 + 1) (i4_1 + 1) T_1 M_1 n_1 I_1 h_q0_1 (by first | omega | decide) (by omega))
          · refine mv_aload_n d_Reader_indexIn_49 rfl rfl ?_
            refine mv_aload_n d_Reader_indexIn_50 rfl rfl ?_
            refine mv_iload d_Reader_indexIn_51 rfl ?_
            refine mv_iload d_Reader_indexIn_53 rfl ?_
            refine mv_iload_n d_Reader_indexIn_55 rfl rfl ?_
            obtain ⟨_, b12, -⟩ := I_1.1 _ _ h_q0_1
            refine mv_callV (kc' := 0) (ks' := 0) (As := [.ref 11, .int i5_1, .int i6_1, .int x2]) (st9 := [.int x2, .int i6_1, .int i5_1, .ref 11, .ref o0]) d_Reader_indexIn_56 lV_Reader_281 b12 rfl (tc_Reader_matches_s1_11 (d := d) (x9 := x9) (o0 := o0) (x2 := i5_1) (x3 := i6_1) (x4 := x2) h_q0_1 I_1.start) rfl (Nat.le_of_ble_eq_true rfl) (Nat.le_of_ble_eq_true rfl) (Nat.le_of_ble_eq_true rfl) (hst := rfl) (fun b6r M7 n8 b6 => ?_)
            obtain ⟨T9, J10, v13, rfl, b14, b15⟩ := b6
            have I11 := I_1.call J10 (tm_sub (by decide)) (Or.inl rfl)
            have t16 := J10.up h_q0_1
            have := mz_hi v13
            refine mv_if_eqZ (tgt := 65) (a := v13.toInt) d_Reader_indexIn_59 (by decide) rfl (fun b17 => ?_) (fun b17 => ?_)
            · refine mv_iinc (v := (i4_1 + 1)) (lv' := [(4, .int (i4_1 + 1)), (6, .int i6_1), (5, .int i5_1), (0, .ref o0), (1, .ref 11), (2, .int x2), (3, .int x3)]) d_Reader_indexIn_65 rfl rfl (by decide) rfl ?_
              refine mv_iload d_Reader_indexIn_68 rfl ?_
              refine mv_iconst (v := 1) d_Reader_indexIn_70 (by decide) ?_
              refine mv_iadd d_Reader_indexIn_71 ?_
              refine mv_istore (lv' := [(5, .int (i6_1 + 1)), (4, .int (i4_1 + 1)), (6, .int i6_1), (0, .ref o0), (1, .ref 11), (2, .int x2), (3, .int x3)]) d_Reader_indexIn_72 (by decide) rfl ?_
              refine mv_iinc (v := (i6_1 + 1)) (lv' := [(6, .int (i6_1 + 1)), (5, .int (i6_1 + 1)), (4, .int (i4_1 + 1)), (0, .ref o0), (1, .ref 11), (2, .int x2), (3, .int x3)]) d_Reader_indexIn_74 rfl rfl (by decide) rfl ?_
              refine mv_goto (tgt := 9) d_Reader_indexIn_77 (by decide) ?_
              have b18 : (i6_1 + 1).toInt = i6_1.toInt + 1 := mz_addn 1 1 (by decide) (by have := mz_lo i6_1; omega) (by have := mz_hi i6_1; omega)
              exact (ih1 (i6_1 + 1) (i6_1 + 1) (i4_1 + 1) T9 M7 n8 I11 t16 (by first | omega | decide) (by omega))
            · refine mv_iload d_Reader_indexIn_62 rfl ?_
              exact mv_iret d_Reader_indexIn_64 rfl (by first | rfl | decide) ⟨_, I11, _, rfl⟩
        · refine mv_aload_n d_Reader_indexIn_27 rfl rfl ?_
          refine mv_iload d_Reader_indexIn_28 rfl ?_
          refine mv_schN (i := 1) (N := 94) d_Reader_indexIn_30 lV_Reader_277 (by decide) rfl rfl (by omega) (by omega) (Nat.le_of_ble_eq_true rfl) (fun v19 => ?_)
          refine mv_bipush (v := 32) d_Reader_indexIn_33 (by decide) ?_
          have := mz_hi v19
          refine mv_icmp_neZ (tgt := 74) (a := v19.toInt) (b := 32) d_Reader_indexIn_35 (by decide) rfl (by decide) (fun b20 => ?_) (fun b20 => ?_)
          · refine mv_iinc (v := (i6_1 + 1)) (lv' := [(6, .int (i6_1 + 1)), (5, .int i5_1), (4, .int i4_1), (0, .ref o0), (1, .ref 11), (2, .int x2), (3, .int x3)]) d_Reader_indexIn_74 rfl rfl (by decide) rfl ?_
            refine mv_goto (tgt := 9) d_Reader_indexIn_77 (by decide) ?_
            have b21 : (i6_1 + 1).toInt = i6_1.toInt + 1 := mz_addn 1 1 (by decide) (by have := mz_lo i6_1; omega) (by have := mz_hi i6_1; omega)
            exact (ih1 (i6_1 + 1) i5_1 i4_1 T_1 M_1 n_1 I_1 h_q0_1 (by first | omega | decide) (by omega))
          · refine mv_iload d_Reader_indexIn_38 rfl ?_
            refine mv_iload d_Reader_indexIn_40 rfl ?_
            refine mv_isub d_Reader_indexIn_42 ?_
            refine mv_iload_n d_Reader_indexIn_43 rfl rfl ?_
            refine mv_iload_n d_Reader_indexIn_44 rfl rfl ?_
            refine mv_isub d_Reader_indexIn_45 ?_
            have := mz_hi (i6_1 - i5_1)
            have := mz_hi (x3 - x2)
            refine mv_icmp_neZ (tgt := 65) (a := (i6_1 - i5_1).toInt) (b := (x3 - x2).toInt) d_Reader_indexIn_46 (by decide) rfl rfl (fun b22 => ?_) (fun b22 => ?_)
            · refine mv_iinc (v := (i4_1 + 1)) (lv' := [(4, .int (i4_1 + 1)), (6, .int i6_1), (5, .int i5_1), (0, .ref o0), (1, .ref 11), (2, .int x2), (3, .int x3)]) d_Reader_indexIn_65 rfl rfl (by decide) rfl ?_
              refine mv_iload d_Reader_indexIn_68 rfl ?_
              refine mv_iconst (v := 1) d_Reader_indexIn_70 (by decide) ?_
              refine mv_iadd d_Reader_indexIn_71 ?_
              refine mv_istore (lv' := [(5, .int (i6_1 + 1)), (4, .int (i4_1 + 1)), (6, .int i6_1), (0, .ref o0), (1, .ref 11), (2, .int x2), (3, .int x3)]) d_Reader_indexIn_72 (by decide) rfl ?_
              refine mv_iinc (v := (i6_1 + 1)) (lv' := [(6, .int (i6_1 + 1)), (5, .int (i6_1 + 1)), (4, .int (i4_1 + 1)), (0, .ref o0), (1, .ref 11), (2, .int x2), (3, .int x3)]) d_Reader_indexIn_74 rfl rfl (by decide) rfl ?_
              refine mv_goto (tgt := 9) d_Reader_indexIn_77 (by decide) ?_
              have b23 : (i6_1 + 1).toInt = i6_1.toInt + 1 := mz_addn 1 1 (by decide) (by have := mz_lo i6_1; omega) (by have := mz_hi i6_1; omega)
              exact (ih1 (i6_1 + 1) (i6_1 + 1) (i4_1 + 1) T_1 M_1 n_1 I_1 h_q0_1 (by first | omega | decide) (by omega))
            · refine mv_aload_n d_Reader_indexIn_49 rfl rfl ?_
              refine mv_aload_n d_Reader_indexIn_50 rfl rfl ?_
              refine mv_iload d_Reader_indexIn_51 rfl ?_
              refine mv_iload d_Reader_indexIn_53 rfl ?_
              refine mv_iload_n d_Reader_indexIn_55 rfl rfl ?_
              obtain ⟨_, b30, -⟩ := I_1.1 _ _ h_q0_1
              refine mv_callV (kc' := 0) (ks' := 0) (As := [.ref 11, .int i5_1, .int i6_1, .int x2]) (st9 := [.int x2, .int i6_1, .int i5_1, .ref 11, .ref o0]) d_Reader_indexIn_56 lV_Reader_281 b30 rfl (tc_Reader_matches_s1_11 (d := d) (x9 := x9) (o0 := o0) (x2 := i5_1) (x3 := i6_1) (x4 := x2) h_q0_1 I_1.start) rfl (Nat.le_of_ble_eq_true rfl) (Nat.le_of_ble_eq_true rfl) (Nat.le_of_ble_eq_true rfl) (hst := rfl) (fun b24r M25 n26 b24 => ?_)
              obtain ⟨T27, J28, v31, rfl, b32, b33⟩ := b24
              have I29 := I_1.call J28 (tm_sub (by decide)) (Or.inl rfl)
              have t34 := J28.up h_q0_1
              have := mz_hi v31
              refine mv_if_eqZ (tgt := 65) (a := v31.toInt) d_Reader_indexIn_59 (by decide) rfl (fun b35 => ?_) (fun b35 => ?_)
              · refine mv_iinc (v := (i4_1 + 1)) (lv' := [(4, .int (i4_1 + 1)), (6, .int i6_1), (5, .int i5_1), (0, .ref o0), (1, .ref 11), (2, .int x2), (3, .int x3)]) d_Reader_indexIn_65 rfl rfl (by decide) rfl ?_
                refine mv_iload d_Reader_indexIn_68 rfl ?_
                refine mv_iconst (v := 1) d_Reader_indexIn_70 (by decide) ?_
                refine mv_iadd d_Reader_indexIn_71 ?_
                refine mv_istore (lv' := [(5, .int (i6_1 + 1)), (4, .int (i4_1 + 1)), (6, .int i6_1), (0, .ref o0), (1, .ref 11), (2, .int x2), (3, .int x3)]) d_Reader_indexIn_72 (by decide) rfl ?_
                refine mv_iinc (v := (i6_1 + 1)) (lv' := [(6, .int (i6_1 + 1)), (5, .int (i6_1 + 1)), (4, .int (i4_1 + 1)), (0, .ref o0), (1, .ref 11), (2, .int x2), (3, .int x3)]) d_Reader_indexIn_74 rfl rfl (by decide) rfl ?_
                refine mv_goto (tgt := 9) d_Reader_indexIn_77 (by decide) ?_
                have b36 : (i6_1 + 1).toInt = i6_1.toInt + 1 := mz_addn 1 1 (by decide) (by have := mz_lo i6_1; omega) (by have := mz_hi i6_1; omega)
                exact (ih1 (i6_1 + 1) (i6_1 + 1) (i4_1 + 1) T27 M25 n26 I29 t34 (by first | omega | decide) (by omega))
              · refine mv_iload d_Reader_indexIn_62 rfl ?_
                exact mv_iret d_Reader_indexIn_64 rfl (by first | rfl | decide) ⟨_, I29, _, rfl⟩
  exact mv_less (Nat.zero_le _) (Nat.zero_le _) (L9_1 4294967296 0 0 0 T0 M0 n0 I0 h_o0 (by first | omega | decide) (by show (2147483647 - (0 : Int) : Int) < _; decide))
theorem d_Reader_wordValue_26 : decode kY_Reader_wordValue.2.1 26 = .ok (.istore 4, 2) := by decide +kernel
theorem d_Reader_wordValue_28 : decode kY_Reader_wordValue.2.1 28 = .ok (.iload 4, 2) := by decide +kernel
theorem d_Reader_wordValue_30 : decode kY_Reader_wordValue.2.1 30 = .ok (.iconst (-1), 1) := by decide +kernel
theorem d_Reader_wordValue_31 : decode kY_Reader_wordValue.2.1 31 = .ok (.if_icmp .ne 7, 3) := by decide +kernel
theorem d_Reader_wordValue_38 : decode kY_Reader_wordValue.2.1 38 = .ok (.bipush 13, 2) := by decide +kernel
theorem d_Reader_wordValue_40 : decode kY_Reader_wordValue.2.1 40 = .ok (.iload 4, 2) := by decide +kernel
theorem d_Reader_wordValue_42 : decode kY_Reader_wordValue.2.1 42 = .ok (.iadd, 1) := by decide +kernel
theorem d_Reader_wordValue_43 : decode kY_Reader_wordValue.2.1 43 = .ok (.ireturn, 1) := by decide +kernel
theorem d_Reader_wordValue_34 : decode kY_Reader_wordValue.2.1 34 = .ok (.iconst (-1), 1) := by decide +kernel
theorem d_Reader_wordValue_35 : decode kY_Reader_wordValue.2.1 35 = .ok (.goto 8, 3) := by decide +kernel
theorem d_Reader_wordValue_15 : decode kY_Reader_wordValue.2.1 15 = .ok (.iload_n 3, 1) := by decide +kernel
theorem d_Reader_wordValue_16 : decode kY_Reader_wordValue.2.1 16 = .ok (.ireturn, 1) := by decide +kernel
def w_Reader_wordValue : List Nat := []
theorem tc_Reader_wordValue {g : mj_G} {l : Launch} {d : Nat} {T0 : tm_H} {M0 : mj_M} {n0 x9 : Nat} {o0 : Nat} {x1 : Int32} {x2 : Int32} (h_o0 : T0 o0 = some (0, 9, 0)) (I0 : tm_I tm_FT (tm_in w_Reader_wordValue) x9 T0 M0 n0 T0 M0 n0) : mj_Met g l kY_Reader_wordValue (d + 6) [.ref o0, .int x1, .int x2] M0 n0 0 0 (tm_Q tm_FT (tm_in w_Reader_wordValue) x9 T0 M0 n0 (fun r _ _ => ∃ v : Int32, r = some (.int v))) := by
  refine mj_enter (by decide) (Nat.le_of_ble_eq_true rfl) ?_
  refine mv_aload_n d_Reader_wordValue_0 rfl rfl ?_
  refine mv_ldcSw (id := 10) (tx := "poor maids boys sick bread coal rent lake income coin living dead marks") d_Reader_wordValue_1 (List.mem_of_getElem? (i := 0) rfl) ?_
  refine mv_iload_n d_Reader_wordValue_4 rfl rfl ?_
  refine mv_iload_n d_Reader_wordValue_5 rfl rfl ?_
  obtain ⟨_, b7, -⟩ := I0.1 _ _ h_o0
  refine mv_callV (kc' := 0) (ks' := 0) (As := [.ref 10, .int x1, .int x2]) (st9 := [.int x2, .int x1, .ref 10, .ref o0]) d_Reader_wordValue_6 lV_Reader_266 b7 rfl (tc_Reader_indexIn_s1_10 (d := d) (x9 := x9) (o0 := o0) (x2 := x1) (x3 := x2) h_o0 I0.start) rfl (Nat.le_of_ble_eq_true rfl) (Nat.le_of_ble_eq_true rfl) (Nat.le_of_ble_eq_true rfl) (hst := rfl) (fun b1r M2 n3 b1 => ?_)
  obtain ⟨T4, J5, v8, rfl⟩ := b1
  have I6 := I0.call J5 (tm_sub (by decide)) (Or.inl rfl)
  have t9 := J5.up h_o0
  refine mv_istore_n (lv' := [(3, .int v8), (0, .ref o0), (1, .int x1), (2, .int x2)]) d_Reader_wordValue_9 rfl (by decide) rfl ?_
  refine mv_iload_n d_Reader_wordValue_10 rfl rfl ?_
  refine mv_iconst (v := (-1)) d_Reader_wordValue_11 (by decide) ?_
  have := mz_hi v8
  refine mv_icmp_eqZ (tgt := 17) (a := v8.toInt) (b := (-1)) d_Reader_wordValue_12 (by decide) rfl (by decide) (fun b10 => ?_) (fun b10 => ?_)
  · refine mv_aload_n d_Reader_wordValue_17 rfl rfl ?_
    refine mv_ldcSw (id := 11) (tx := "fail keep days late gain sell near join sale strike bar mark trust end pays if part not and or") d_Reader_wordValue_18 (List.mem_of_getElem? (i := 1) rfl) ?_
    refine mv_iload_n d_Reader_wordValue_21 rfl rfl ?_
    refine mv_iload_n d_Reader_wordValue_22 rfl rfl ?_
    obtain ⟨_, b17, -⟩ := I6.1 _ _ t9
    refine mv_callV (kc' := 0) (ks' := 0) (As := [.ref 11, .int x1, .int x2]) (st9 := [.int x2, .int x1, .ref 11, .ref o0]) d_Reader_wordValue_23 lV_Reader_266 b17 rfl (tc_Reader_indexIn_s1_11 (d := d) (x9 := x9) (o0 := o0) (x2 := x1) (x3 := x2) t9 I6.start) rfl (Nat.le_of_ble_eq_true rfl) (Nat.le_of_ble_eq_true rfl) (Nat.le_of_ble_eq_true rfl) (hst := rfl) (fun b11r M12 n13 b11 => ?_)
    obtain ⟨T14, J15, v18, rfl⟩ := b11
    have I16 := I6.call J15 (tm_sub (by decide)) (Or.inl rfl)
    have t19 := J15.up t9
    refine mv_istore (lv' := [(4, .int v18), (3, .int v8), (0, .ref o0), (1, .int x1), (2, .int x2)]) d_Reader_wordValue_26 (by decide) rfl ?_
    refine mv_iload d_Reader_wordValue_28 rfl ?_
    refine mv_iconst (v := (-1)) d_Reader_wordValue_30 (by decide) ?_
    have := mz_hi v18
    refine mv_icmp_neZ (tgt := 38) (a := v18.toInt) (b := (-1)) d_Reader_wordValue_31 (by decide) rfl (by decide) (fun b20 => ?_) (fun b20 => ?_)
    · refine mv_bipush (v := 13) d_Reader_wordValue_38 (by decide) ?_
      refine mv_iload d_Reader_wordValue_40 rfl ?_
      refine mv_iadd d_Reader_wordValue_42 ?_
      exact mv_iret d_Reader_wordValue_43 rfl (by first | rfl | decide) ⟨_, I16, _, rfl⟩
    · refine mv_iconst (v := (-1)) d_Reader_wordValue_34 (by decide) ?_
      refine mv_goto (tgt := 43) d_Reader_wordValue_35 (by decide) ?_
      exact mv_iret d_Reader_wordValue_43 rfl (by first | rfl | decide) ⟨_, I16, _, rfl⟩
  · refine mv_iload_n d_Reader_wordValue_15 rfl rfl ?_
    exact mv_iret d_Reader_wordValue_16 rfl (by first | rfl | decide) ⟨_, I6, _, rfl⟩
theorem lV_Reader_255 : mj_lV "TrustDesk$Reader" 255 kY_Reader_wordValue 2 := ⟨⟨(mj_in1 (List.mem_of_getElem? (i := 381) (by decide +kernel)) rfl), (mj_in1 (List.mem_of_getElem? (i := 3) (by decide +kernel)) rfl), (mj_in1 (List.mem_of_getElem? (i := 384) (by decide +kernel)) rfl), by decide, rfl, by decide⟩, (mj_in1 (List.mem_of_getElem? (i := 383) (by decide +kernel)) rfl), (mj_in (List.mem_append_left _ (List.mem_of_getElem? (i := 6) (by decide +kernel))) rfl)⟩
theorem d_Reader_putToken_61 : decode kY_Reader_putToken.2.1 61 = .ok (.goto 22, 3) := by decide +kernel
def w_Reader_putToken : List Nat := [908, 954, 955, 956, 957]
theorem tc_Reader_putToken {g : mj_G} {l : Launch} {d : Nat} {T0 : tm_H} {M0 : mj_M} {n0 x9 : Nat} {o0 : Nat} {x1 : Int32} {x2 : Int32} {x3 : Int32} (h_o0 : T0 o0 = some (0, 9, 0)) (I0 : tm_I tm_FT (tm_in w_Reader_putToken) x9 T0 M0 n0 T0 M0 n0) : mj_Met g l kY_Reader_putToken (d + 7) [.ref o0, .int x1, .int x2, .int x3] M0 n0 0 0 (tm_Q tm_FT (tm_in w_Reader_putToken) x9 T0 M0 n0 (fun r _ _ => r = none)) := by
  refine mj_enter (by decide) (Nat.le_of_ble_eq_true rfl) ?_
  refine mv_aload_n d_Reader_putToken_0 rfl rfl ?_
  obtain ⟨v2, q1⟩ := tm_atI I0 h_o0 (k := 8) rfl
  refine tr_getK q1 d_Reader_putToken_1 f_Reader_244_9 ?_
  refine mv_istore (lv' := [(4, .int v2), (0, .ref o0), (1, .int x1), (2, .int x2), (3, .int x3)]) d_Reader_putToken_4 (by decide) rfl ?_
  refine mv_iload d_Reader_putToken_6 rfl ?_
  have := mz_hi v2
  refine mv_if_ltZ (tgt := 19) (a := v2.toInt) d_Reader_putToken_8 (by decide) rfl (fun b3 => ?_) (fun b3 => ?_)
  · exact mv_vret d_Reader_putToken_19 rfl ⟨_, I0, rfl⟩
  · refine mv_iload d_Reader_putToken_11 rfl ?_
    refine mv_sipush (v := 400) d_Reader_putToken_13 (by decide) ?_
    have := mz_hi v2
    refine mv_icmp_ltZ (tgt := 20) (a := v2.toInt) (b := 400) d_Reader_putToken_16 (by decide) rfl (by decide) (fun b4 => ?_) (fun b4 => ?_)
    · refine mv_aload_n d_Reader_putToken_20 rfl rfl ?_
      obtain ⟨a6, q5, t_a6⟩ := tm_atR I0 h_o0 (k := 4) rfl
      refine tr_getK q5 d_Reader_putToken_21 f_Reader_19_9 ?_
      refine mv_iload d_Reader_putToken_24 rfl ?_
      refine mv_iload_n d_Reader_putToken_26 rfl rfl ?_
      refine tr_iastK tm_okF I0 t_a6 (by decide) (Or.inl (by decide)) d_Reader_putToken_27 (vp_in_iff.mpr (by omega)) (fun M7 I8 K9 => ?_)
      refine mv_aload_n d_Reader_putToken_28 rfl rfl ?_
      obtain ⟨a11, q10, t_a11⟩ := tm_atR I8 h_o0 (k := 5) rfl
      refine tr_getK q10 d_Reader_putToken_29 f_Reader_22_9 ?_
      refine mv_iload d_Reader_putToken_32 rfl ?_
      refine mv_iload_n d_Reader_putToken_34 rfl rfl ?_
      refine tr_iastK tm_okF I8 t_a11 (by decide) (Or.inl (by decide)) d_Reader_putToken_35 (vp_in_iff.mpr (by omega)) (fun M12 I13 K14 => ?_)
      refine mv_aload_n d_Reader_putToken_36 rfl rfl ?_
      obtain ⟨a16, q15, t_a16⟩ := tm_atR I13 h_o0 (k := 6) rfl
      refine tr_getK q15 d_Reader_putToken_37 f_Reader_25_9 ?_
      refine mv_iload d_Reader_putToken_40 rfl ?_
      refine mv_iload_n d_Reader_putToken_42 rfl rfl ?_
      refine tr_iastK tm_okF I13 t_a16 (by decide) (Or.inl (by decide)) d_Reader_putToken_43 (vp_in_iff.mpr (by omega)) (fun M17 I18 K19 => ?_)
      refine mv_aload_n d_Reader_putToken_44 rfl rfl ?_
      obtain ⟨a21, q20, t_a21⟩ := tm_atR I18 h_o0 (k := 7) rfl
      refine tr_getK q20 d_Reader_putToken_45 f_Reader_28_9 ?_
      refine mv_iload d_Reader_putToken_48 rfl ?_
      refine mv_iload_n d_Reader_putToken_50 rfl rfl ?_
      refine mv_iconst (v := 1) d_Reader_putToken_51 (by decide) ?_
      have := mz_hi x1
      refine mv_icmp_neZ (tgt := 64) (a := x1.toInt) (b := 1) d_Reader_putToken_52 (by decide) rfl (by decide) (fun b22 => ?_) (fun b22 => ?_)
      · refine mv_iload_n d_Reader_putToken_64 rfl rfl ?_
        refine mv_iconst (v := 2) d_Reader_putToken_65 (by decide) ?_
        have := mz_hi x1
        refine mv_icmp_neZ (tgt := 78) (a := x1.toInt) (b := 2) d_Reader_putToken_66 (by decide) rfl (by decide) (fun b23 => ?_) (fun b23 => ?_)
        · refine mv_aload_n d_Reader_putToken_78 rfl rfl ?_
          refine mv_iload_n d_Reader_putToken_79 rfl rfl ?_
          obtain ⟨_, b30, -⟩ := I18.1 _ _ h_o0
          refine mv_callV (kc' := 0) (ks' := 0) (As := [.int x2]) (st9 := [.int x2, .ref o0, .int v2, .ref a21]) d_Reader_putToken_80 lV_Reader_261 b30 rfl (tc_Reader_byteAt (d := (d + 6)) (x9 := x9) (o0 := o0) (x1 := x2) h_o0 I18.start) rfl (Nat.le_of_ble_eq_true rfl) (Nat.le_of_ble_eq_true rfl) (Nat.le_of_ble_eq_true rfl) (hst := rfl) (fun b24r M25 n26 b24 => ?_)
          obtain ⟨T27, J28, v31, rfl⟩ := b24
          have I29 := I18.call J28 (tm_sub (by decide)) (Or.inl rfl)
          have t32 := J28.up h_o0
          have t33 := J28.up t_a21
          have q34 := J28.keep h_o0 (by decide) (K19 _ 9 8 _ (K14 _ 9 8 _ (K9 _ 9 8 _ q1)))
          have q35 := J28.keep h_o0 (by decide) (K19 _ 9 4 _ (K14 _ 9 4 _ (K9 _ 9 4 _ q5)))
          have t36 := J28.up t_a6
          have q37 := J28.keep h_o0 (by decide) (K19 _ 9 5 _ (K14 _ 9 5 _ q10))
          have t38 := J28.up t_a11
          have q39 := J28.keep h_o0 (by decide) (K19 _ 9 6 _ q15)
          have t40 := J28.up t_a16
          have q41 := J28.keep h_o0 (by decide) q20
          refine tr_iastK tm_okF I29 t33 (by decide) (Or.inl (by decide)) d_Reader_putToken_83 (vp_in_iff.mpr (by omega)) (fun M42 I43 K44 => ?_)
          refine mv_aload_n d_Reader_putToken_84 rfl rfl ?_
          refine mv_dup d_Reader_putToken_85 rfl ?_
          refine tr_getK (k := 8) (K44 _ 9 8 _ q34) d_Reader_putToken_86 f_Reader_244_9 ?_
          refine mv_iconst (v := 1) d_Reader_putToken_89 (by decide) ?_
          refine mv_iadd d_Reader_putToken_90 ?_
          refine tr_putK tm_okF I43 t32 (k := 8) rfl ⟨_, rfl⟩ (Or.inl (by decide)) d_Reader_putToken_91 p_Reader_244_9 rfl rfl (fun M45 I46 q47 K48 => ?_)
          exact mv_vret d_Reader_putToken_94 rfl ⟨_, I46, rfl⟩
        · refine mv_aload_n d_Reader_putToken_69 rfl rfl ?_
          refine mv_iload_n d_Reader_putToken_70 rfl rfl ?_
          refine mv_iload_n d_Reader_putToken_71 rfl rfl ?_
          obtain ⟨_, b55, -⟩ := I18.1 _ _ h_o0
          refine mv_callV (kc' := 0) (ks' := 0) (As := [.int x2, .int x3]) (st9 := [.int x3, .int x2, .ref o0, .int v2, .ref a21]) d_Reader_putToken_72 lV_Reader_258 b55 rfl (tc_Reader_numberValue (d := (d + 5)) (x9 := x9) (o0 := o0) (x1 := x2) (x2 := x3) h_o0 I18.start) rfl (Nat.le_of_ble_eq_true rfl) (Nat.le_of_ble_eq_true rfl) (Nat.le_of_ble_eq_true rfl) (hst := rfl) (fun b49r M50 n51 b49 => ?_)
          obtain ⟨T52, J53, v56, rfl⟩ := b49
          have I54 := I18.call J53 (tm_sub (by decide)) (Or.inl rfl)
          have t57 := J53.up h_o0
          have t58 := J53.up t_a21
          have q59 := J53.keep h_o0 (by decide) (K19 _ 9 8 _ (K14 _ 9 8 _ (K9 _ 9 8 _ q1)))
          have q60 := J53.keep h_o0 (by decide) (K19 _ 9 4 _ (K14 _ 9 4 _ (K9 _ 9 4 _ q5)))
          have t61 := J53.up t_a6
          have q62 := J53.keep h_o0 (by decide) (K19 _ 9 5 _ (K14 _ 9 5 _ q10))
          have t63 := J53.up t_a11
          have q64 := J53.keep h_o0 (by decide) (K19 _ 9 6 _ q15)
          have t65 := J53.up t_a16
          have q66 := J53.keep h_o0 (by decide) q20
          refine mv_goto (tgt := 83) d_Reader_putToken_75 (by decide) ?_
          refine tr_iastK tm_okF I54 t58 (by decide) (Or.inl (by decide)) d_Reader_putToken_83 (vp_in_iff.mpr (by omega)) (fun M67 I68 K69 => ?_)
          refine mv_aload_n d_Reader_putToken_84 rfl rfl ?_
          refine mv_dup d_Reader_putToken_85 rfl ?_
          refine tr_getK (k := 8) (K69 _ 9 8 _ q59) d_Reader_putToken_86 f_Reader_244_9 ?_
          refine mv_iconst (v := 1) d_Reader_putToken_89 (by decide) ?_
          refine mv_iadd d_Reader_putToken_90 ?_
          refine tr_putK tm_okF I68 t57 (k := 8) rfl ⟨_, rfl⟩ (Or.inl (by decide)) d_Reader_putToken_91 p_Reader_244_9 rfl rfl (fun M70 I71 q72 K73 => ?_)
          exact mv_vret d_Reader_putToken_94 rfl ⟨_, I71, rfl⟩
      · refine mv_aload_n d_Reader_putToken_55 rfl rfl ?_
        refine mv_iload_n d_Reader_putToken_56 rfl rfl ?_
        refine mv_iload_n d_Reader_putToken_57 rfl rfl ?_
        obtain ⟨_, b80, -⟩ := I18.1 _ _ h_o0
        refine mv_callV (kc' := 0) (ks' := 0) (As := [.int x2, .int x3]) (st9 := [.int x3, .int x2, .ref o0, .int v2, .ref a21]) d_Reader_putToken_58 lV_Reader_255 b80 rfl (tc_Reader_wordValue (d := d) (x9 := x9) (o0 := o0) (x1 := x2) (x2 := x3) h_o0 I18.start) rfl (Nat.le_of_ble_eq_true rfl) (Nat.le_of_ble_eq_true rfl) (Nat.le_of_ble_eq_true rfl) (hst := rfl) (fun b74r M75 n76 b74 => ?_)
        obtain ⟨T77, J78, v81, rfl⟩ := b74
        have I79 := I18.call J78 (tm_sub (by decide)) (Or.inl rfl)
        have t82 := J78.up h_o0
        have t83 := J78.up t_a21
        have q84 := J78.keep h_o0 (by decide) (K19 _ 9 8 _ (K14 _ 9 8 _ (K9 _ 9 8 _ q1)))
        have q85 := J78.keep h_o0 (by decide) (K19 _ 9 4 _ (K14 _ 9 4 _ (K9 _ 9 4 _ q5)))
        have t86 := J78.up t_a6
        have q87 := J78.keep h_o0 (by decide) (K19 _ 9 5 _ (K14 _ 9 5 _ q10))
        have t88 := J78.up t_a11
        have q89 := J78.keep h_o0 (by decide) (K19 _ 9 6 _ q15)
        have t90 := J78.up t_a16
        have q91 := J78.keep h_o0 (by decide) q20
        refine mv_goto (tgt := 83) d_Reader_putToken_61 (by decide) ?_
        refine tr_iastK tm_okF I79 t83 (by decide) (Or.inl (by decide)) d_Reader_putToken_83 (vp_in_iff.mpr (by omega)) (fun M92 I93 K94 => ?_)
        refine mv_aload_n d_Reader_putToken_84 rfl rfl ?_
        refine mv_dup d_Reader_putToken_85 rfl ?_
        refine tr_getK (k := 8) (K94 _ 9 8 _ q84) d_Reader_putToken_86 f_Reader_244_9 ?_
        refine mv_iconst (v := 1) d_Reader_putToken_89 (by decide) ?_
        refine mv_iadd d_Reader_putToken_90 ?_
        refine tr_putK tm_okF I93 t82 (k := 8) rfl ⟨_, rfl⟩ (Or.inl (by decide)) d_Reader_putToken_91 p_Reader_244_9 rfl rfl (fun M95 I96 q97 K98 => ?_)
        exact mv_vret d_Reader_putToken_94 rfl ⟨_, I96, rfl⟩
    · exact mv_vret d_Reader_putToken_19 rfl ⟨_, I0, rfl⟩
theorem lV_Reader_251 : mj_lV "TrustDesk$Reader" 251 kY_Reader_putToken 3 := ⟨⟨(mj_in1 (List.mem_of_getElem? (i := 377) (by decide +kernel)) rfl), (mj_in1 (List.mem_of_getElem? (i := 3) (by decide +kernel)) rfl), (mj_in1 (List.mem_of_getElem? (i := 380) (by decide +kernel)) rfl), by decide, rfl, by decide⟩, (mj_in1 (List.mem_of_getElem? (i := 379) (by decide +kernel)) rfl), (mj_in (List.mem_append_left _ (List.mem_of_getElem? (i := 5) (by decide +kernel))) rfl)⟩
theorem d_Reader_cut_65 : decode kY_Reader_cut.2.1 65 = .ok (.iload_n 3, 1) := by decide +kernel
theorem d_Reader_cut_66 : decode kY_Reader_cut.2.1 66 = .ok (.istore_n 1, 1) := by decide +kernel
theorem d_Reader_cut_67 : decode kY_Reader_cut.2.1 67 = .ok (.goto (-60), 3) := by decide +kernel
theorem d_Reader_cut_30 : decode kY_Reader_cut.2.1 30 = .ok (.iload_n 3, 1) := by decide +kernel
theorem d_Reader_cut_31 : decode kY_Reader_cut.2.1 31 = .ok (.aload_n 0, 1) := by decide +kernel
theorem d_Reader_cut_32 : decode kY_Reader_cut.2.1 32 = .ok (.getfield 34, 3) := by decide +kernel
theorem d_Reader_cut_35 : decode kY_Reader_cut.2.1 35 = .ok (.if_icmp .ge 18, 3) := by decide +kernel
theorem d_Reader_cut_38 : decode kY_Reader_cut.2.1 38 = .ok (.aload_n 0, 1) := by decide +kernel
theorem d_Reader_cut_39 : decode kY_Reader_cut.2.1 39 = .ok (.iload_n 3, 1) := by decide +kernel
theorem d_Reader_cut_40 : decode kY_Reader_cut.2.1 40 = .ok (.invokevirtual 247, 3) := by decide +kernel
theorem d_Reader_cut_43 : decode kY_Reader_cut.2.1 43 = .ok (.iload_n 2, 1) := by decide +kernel
theorem d_Reader_cut_44 : decode kY_Reader_cut.2.1 44 = .ok (.if_icmp .ne 9, 3) := by decide +kernel
theorem d_Reader_cut_47 : decode kY_Reader_cut.2.1 47 = .ok (.iinc 3 1, 3) := by decide +kernel
theorem d_Reader_cut_50 : decode kY_Reader_cut.2.1 50 = .ok (.goto (-25), 3) := by decide +kernel
def w_Reader_cut : List Nat := [908, 954, 955, 956, 957]
theorem tc_Reader_cut {g : mj_G} {l : Launch} {d : Nat} {T0 : tm_H} {M0 : mj_M} {n0 x9 : Nat} {o0 : Nat} (h_o0 : T0 o0 = some (0, 9, 0)) (I0 : tm_I tm_FT (tm_in w_Reader_cut) x9 T0 M0 n0 T0 M0 n0) : mj_Met g l kY_Reader_cut (d + 8) [.ref o0] M0 n0 0 0 (tm_Q tm_FT (tm_in w_Reader_cut) x9 T0 M0 n0 (fun r _ _ => r = none)) := by
  refine mj_enter (by decide) (Nat.le_of_ble_eq_true rfl) ?_
  refine mv_aload_n d_Reader_cut_0 rfl rfl ?_
  refine mv_iconst (v := 0) d_Reader_cut_1 (by decide) ?_
  refine tr_putK tm_okF I0 h_o0 (k := 8) rfl ⟨_, rfl⟩ (Or.inl (by decide)) d_Reader_cut_2 p_Reader_244_9 rfl rfl (fun M1 I2 q3 K4 => ?_)
  refine mv_iconst (v := 0) d_Reader_cut_5 (by decide) ?_
  refine mv_istore_n (lv' := [(1, .int 0), (0, .ref o0)]) d_Reader_cut_6 rfl (by decide) rfl ?_
  have L7_5 : ∀ (k : Nat) (i1_5 : Int32) (T_5 : tm_H) (M_5 : mj_M) (n_5 : Nat), tm_I tm_FT (tm_in w_Reader_cut) x9 T0 M0 n0 T_5 M_5 n_5 → T_5 o0 = some (0, 9, 0) → 0 ≤ i1_5.toInt → 2147483647 - i1_5.toInt < (k : Int) → mj_V g l kY_Reader_cut (d + 8) 7 [(1, .int i1_5), (0, .ref o0)] [] M_5 n_5 0 0 (tm_Q tm_FT (tm_in w_Reader_cut) x9 T0 M0 n0 (fun r _ _ => r = none)) := by
    intro k5
    induction k5 with
    | zero =>
      intro i1_5 T_5 M_5 n_5 I_5 h_q0_5 iv0_5 hk5
      have := mz_hi i1_5
      omega
    | succ k5 ih5 =>
      intro i1_5 T_5 M_5 n_5 I_5 h_q0_5 iv0_5 hk5
      refine mv_iload_n d_Reader_cut_7 rfl rfl ?_
      refine mv_aload_n d_Reader_cut_8 rfl rfl ?_
      obtain ⟨v7, q6⟩ := tm_atI I_5 h_q0_5 (k := 0) rfl
      refine tr_getK q6 d_Reader_cut_9 f_Reader_34_9 ?_
      have := mz_hi i1_5
      have := mz_hi v7
      refine mv_icmp_geZ (tgt := 70) (a := i1_5.toInt) (b := v7.toInt) d_Reader_cut_12 (by decide) rfl rfl (fun b8 => ?_) (fun b8 => ?_)
      · exact mv_vret d_Reader_cut_70 rfl ⟨_, I_5, rfl⟩
      · refine mv_aload_n d_Reader_cut_15 rfl rfl ?_
        refine mv_iload_n d_Reader_cut_16 rfl rfl ?_
        obtain ⟨_, b15, -⟩ := I_5.1 _ _ h_q0_5
        refine mv_callV (kc' := 0) (ks' := 0) (As := [.int i1_5]) (st9 := [.int i1_5, .ref o0]) d_Reader_cut_17 lV_Reader_247 b15 rfl (tc_Reader_sortOf (d := (d + 6)) (x9 := x9) (o0 := o0) (x1 := i1_5) h_q0_5 I_5.start) rfl (Nat.le_of_ble_eq_true rfl) (Nat.le_of_ble_eq_true rfl) (Nat.le_of_ble_eq_true rfl) (hst := rfl) (fun b9r M10 n11 b9 => ?_)
        obtain ⟨T12, J13, v16, rfl⟩ := b9
        have I14 := I_5.call J13 (tm_sub (by decide)) (Or.inl rfl)
        have t17 := J13.up h_q0_5
        have q18 := J13.keep h_q0_5 (by decide) q6
        refine mv_istore_n (lv' := [(2, .int v16), (1, .int i1_5), (0, .ref o0)]) d_Reader_cut_20 rfl (by decide) rfl ?_
        refine mv_iload_n d_Reader_cut_21 rfl rfl ?_
        refine mv_iconst (v := 1) d_Reader_cut_22 (by decide) ?_
        refine mv_iadd d_Reader_cut_23 ?_
        refine mv_istore_n (lv' := [(3, .int (i1_5 + 1)), (2, .int v16), (1, .int i1_5), (0, .ref o0)]) d_Reader_cut_24 rfl (by decide) rfl ?_
        have L25_19 : ∀ (k : Nat) (i3_19 : Int32) (T_19 : tm_H) (M_19 : mj_M) (n_19 : Nat), tm_I tm_FT (tm_in w_Reader_cut) x9 T0 M0 n0 T_19 M_19 n_19 → T_19 o0 = some (0, 9, 0) → i1_5.toInt + 1 ≤ i3_19.toInt → 2147483647 - i3_19.toInt < (k : Int) → mj_V g l kY_Reader_cut (d + 8) 25 [(3, .int i3_19), (2, .int v16), (1, .int i1_5), (0, .ref o0)] [] M_19 n_19 0 0 (tm_Q tm_FT (tm_in w_Reader_cut) x9 T0 M0 n0 (fun r _ _ => r = none)) := by
          intro k19
          induction k19 with
          | zero =>
            intro i3_19 T_19 M_19 n_19 I_19 h_q0_19 iv0_19 hk19
            have := mz_hi i3_19
            omega
          | succ k19 ih19 =>
            intro i3_19 T_19 M_19 n_19 I_19 h_q0_19 iv0_19 hk19
            refine mv_iload_n d_Reader_cut_25 rfl rfl ?_
            refine mv_iconst (v := 3) d_Reader_cut_26 (by decide) ?_
            have := mz_hi v16
            refine mv_icmp_eqZ (tgt := 53) (a := v16.toInt) (b := 3) d_Reader_cut_27 (by decide) rfl (by decide) (fun b20 => ?_) (fun b20 => ?_)
            · refine mv_iload_n d_Reader_cut_53 rfl rfl ?_
              refine mv_iconst (v := 4) d_Reader_cut_54 (by decide) ?_
              have := mz_hi v16
              refine mv_icmp_eqZ (tgt := 65) (a := v16.toInt) (b := 4) d_Reader_cut_55 (by decide) rfl (by decide) (fun b21 => absurd b21 (by omega)) (fun b21 => ?_)
              refine mv_aload_n d_Reader_cut_58 rfl rfl ?_
              refine mv_iload_n d_Reader_cut_59 rfl rfl ?_
              refine mv_iload_n d_Reader_cut_60 rfl rfl ?_
              refine mv_iload_n d_Reader_cut_61 rfl rfl ?_
              obtain ⟨_, b28, -⟩ := I_19.1 _ _ h_q0_19
              refine mv_callV (kc' := 0) (ks' := 0) (As := [.int v16, .int i1_5, .int i3_19]) (st9 := [.int i3_19, .int i1_5, .int v16, .ref o0]) d_Reader_cut_62 lV_Reader_251 b28 rfl (tc_Reader_putToken (d := d) (x9 := x9) (o0 := o0) (x1 := v16) (x2 := i1_5) (x3 := i3_19) h_q0_19 I_19.start) rfl (Nat.le_of_ble_eq_true rfl) (Nat.le_of_ble_eq_true rfl) (Nat.le_of_ble_eq_true rfl) (hst := rfl) (fun b22r M23 n24 b22 => ?_)
              obtain ⟨T25, J26, rfl⟩ := b22
              have I27 := I_19.call J26 (tm_sub (by decide)) (Or.inl rfl)
              have t29 := J26.up h_q0_19
              refine mv_iload_n d_Reader_cut_65 rfl rfl ?_
              refine mv_istore_n (lv' := [(1, .int i3_19), (3, .int i3_19), (2, .int v16), (0, .ref o0)]) d_Reader_cut_66 rfl (by decide) rfl ?_
              refine mv_goto (tgt := 7) d_Reader_cut_67 (by decide) ?_
              refine mv_locals (lv' := [(1, .int i3_19), (0, .ref o0)]) (by intro q hq; simp only [List.mem_cons, List.not_mem_nil, or_false] at hq; rcases hq with rfl | rfl <;> rfl) ?_
              exact (ih5 i3_19 T25 M23 n24 I27 t29 (by first | omega | decide) (by omega))
            · refine mv_iload_n d_Reader_cut_30 rfl rfl ?_
              refine mv_aload_n d_Reader_cut_31 rfl rfl ?_
              obtain ⟨v31, q30⟩ := tm_atI I_19 h_q0_19 (k := 0) rfl
              refine tr_getK q30 d_Reader_cut_32 f_Reader_34_9 ?_
              have := mz_hi i3_19
              have := mz_hi v31
              refine mv_icmp_geZ (tgt := 53) (a := i3_19.toInt) (b := v31.toInt) d_Reader_cut_35 (by decide) rfl rfl (fun b32 => ?_) (fun b32 => ?_)
              · refine mv_iload_n d_Reader_cut_53 rfl rfl ?_
                refine mv_iconst (v := 4) d_Reader_cut_54 (by decide) ?_
                have := mz_hi v16
                refine mv_icmp_eqZ (tgt := 65) (a := v16.toInt) (b := 4) d_Reader_cut_55 (by decide) rfl (by decide) (fun b33 => ?_) (fun b33 => ?_)
                · refine mv_iload_n d_Reader_cut_65 rfl rfl ?_
                  refine mv_istore_n (lv' := [(1, .int i3_19), (3, .int i3_19), (2, .int v16), (0, .ref o0)]) d_Reader_cut_66 rfl (by decide) rfl ?_
                  refine mv_goto (tgt := 7) d_Reader_cut_67 (by decide) ?_
                  refine mv_locals (lv' := [(1, .int i3_19), (0, .ref o0)]) (by intro q hq; simp only [List.mem_cons, List.not_mem_nil, or_false] at hq; rcases hq with rfl | rfl <;> rfl) ?_
                  exact (ih5 i3_19 T_19 M_19 n_19 I_19 h_q0_19 (by first | omega | decide) (by omega))
                · refine mv_aload_n d_Reader_cut_58 rfl rfl ?_
                  refine mv_iload_n d_Reader_cut_59 rfl rfl ?_
                  refine mv_iload_n d_Reader_cut_60 rfl rfl ?_
                  refine mv_iload_n d_Reader_cut_61 rfl rfl ?_
                  obtain ⟨_, b40, -⟩ := I_19.1 _ _ h_q0_19
                  refine mv_callV (kc' := 0) (ks' := 0) (As := [.int v16, .int i1_5, .int i3_19]) (st9 := [.int i3_19, .int i1_5, .int v16, .ref o0]) d_Reader_cut_62 lV_Reader_251 b40 rfl (tc_Reader_putToken (d := d) (x9 := x9) (o0 := o0) (x1 := v16) (x2 := i1_5) (x3 := i3_19) h_q0_19 I_19.start) rfl (Nat.le_of_ble_eq_true rfl) (Nat.le_of_ble_eq_true rfl) (Nat.le_of_ble_eq_true rfl) (hst := rfl) (fun b34r M35 n36 b34 => ?_)
                  obtain ⟨T37, J38, rfl⟩ := b34
                  have I39 := I_19.call J38 (tm_sub (by decide)) (Or.inl rfl)
                  have t41 := J38.up h_q0_19
                  have q42 := J38.keep h_q0_19 (by decide) q30
                  refine mv_iload_n d_Reader_cut_65 rfl rfl ?_
                  refine mv_istore_n (lv' := [(1, .int i3_19), (3, .int i3_19), (2, .int v16), (0, .ref o0)]) d_Reader_cut_66 rfl (by decide) rfl ?_
                  refine mv_goto (tgt := 7) d_Reader_cut_67 (by decide) ?_
                  refine mv_locals (lv' := [(1, .int i3_19), (0, .ref o0)]) (by intro q hq; simp only [List.mem_cons, List.not_mem_nil, or_false] at hq; rcases hq with rfl | rfl <;> rfl) ?_
                  exact (ih5 i3_19 T37 M35 n36 I39 t41 (by first | omega | decide) (by omega))
              · refine mv_aload_n d_Reader_cut_38 rfl rfl ?_
                refine mv_iload_n d_Reader_cut_39 rfl rfl ?_
                obtain ⟨_, b49, -⟩ := I_19.1 _ _ h_q0_19
                refine mv_callV (kc' := 0) (ks' := 0) (As := [.int i3_19]) (st9 := [.int i3_19, .ref o0]) d_Reader_cut_40 lV_Reader_247 b49 rfl (tc_Reader_sortOf (d := (d + 6)) (x9 := x9) (o0 := o0) (x1 := i3_19) h_q0_19 I_19.start) rfl (Nat.le_of_ble_eq_true rfl) (Nat.le_of_ble_eq_true rfl) (Nat.le_of_ble_eq_true rfl) (hst := rfl) (fun b43r M44 n45 b43 => ?_)
                obtain ⟨T46, J47, v50, rfl⟩ := b43
                have I48 := I_19.call J47 (tm_sub (by decide)) (Or.inl rfl)
                have t51 := J47.up h_q0_19
                have q52 := J47.keep h_q0_19 (by decide) q30
                refine mv_iload_n d_Reader_cut_43 rfl rfl ?_
                have := mz_hi v50
                have := mz_hi v16
                refine mv_icmp_neZ (tgt := 53) (a := v50.toInt) (b := v16.toInt) d_Reader_cut_44 (by decide) rfl rfl (fun b53 => ?_) (fun b53 => ?_)
                · refine mv_iload_n d_Reader_cut_53 rfl rfl ?_
                  refine mv_iconst (v := 4) d_Reader_cut_54 (by decide) ?_
                  have := mz_hi v16
                  refine mv_icmp_eqZ (tgt := 65) (a := v16.toInt) (b := 4) d_Reader_cut_55 (by decide) rfl (by decide) (fun b54 => ?_) (fun b54 => ?_)
                  · refine mv_iload_n d_Reader_cut_65 rfl rfl ?_
                    refine mv_istore_n (lv' := [(1, .int i3_19), (3, .int i3_19), (2, .int v16), (0, .ref o0)]) d_Reader_cut_66 rfl (by decide) rfl ?_
                    refine mv_goto (tgt := 7) d_Reader_cut_67 (by decide) ?_
                    refine mv_locals (lv' := [(1, .int i3_19), (0, .ref o0)]) (by intro q hq; simp only [List.mem_cons, List.not_mem_nil, or_false] at hq; rcases hq with rfl | rfl <;> rfl) ?_
                    exact (ih5 i3_19 T46 M44 n45 I48 t51 (by first | omega | decide) (by omega))
                  · refine mv_aload_n d_Reader_cut_58 rfl rfl ?_
                    refine mv_iload_n d_Reader_cut_59 rfl rfl ?_
                    refine mv_iload_n d_Reader_cut_60 rfl rfl ?_
                    refine mv_iload_n d_Reader_cut_61 rfl rfl ?_
                    obtain ⟨_, b61, -⟩ := I48.1 _ _ t51
                    refine mv_callV (kc' := 0) (ks' := 0) (As := [.int v16, .int i1_5, .int i3_19]) (st9 := [.int i3_19, .int i1_5, .int v16, .ref o0]) d_Reader_cut_62 lV_Reader_251 b61 rfl (tc_Reader_putToken (d := d) (x9 := x9) (o0 := o0) (x1 := v16) (x2 := i1_5) (x3 := i3_19) t51 I48.start) rfl (Nat.le_of_ble_eq_true rfl) (Nat.le_of_ble_eq_true rfl) (Nat.le_of_ble_eq_true rfl) (hst := rfl) (fun b55r M56 n57 b55 => ?_)
                    obtain ⟨T58, J59, rfl⟩ := b55
                    have I60 := I48.call J59 (tm_sub (by decide)) (Or.inl rfl)
                    have t62 := J59.up t51
                    have q63 := J59.keep t51 (by decide) q52
                    refine mv_iload_n d_Reader_cut_65 rfl rfl ?_
                    refine mv_istore_n (lv' := [(1, .int i3_19), (3, .int i3_19), (2, .int v16), (0, .ref o0)]) d_Reader_cut_66 rfl (by decide) rfl ?_
                    refine mv_goto (tgt := 7) d_Reader_cut_67 (by decide) ?_
                    refine mv_locals (lv' := [(1, .int i3_19), (0, .ref o0)]) (by intro q hq; simp only [List.mem_cons, List.not_mem_nil, or_false] at hq; rcases hq with rfl | rfl <;> rfl) ?_
                    exact (ih5 i3_19 T58 M56 n57 I60 t62 (by first | omega | decide) (by omega))
                · refine mv_iinc (v := (i3_19 + 1)) (lv' := [(3, .int (i3_19 + 1)), (2, .int v16), (1, .int i1_5), (0, .ref o0)]) d_Reader_cut_47 rfl rfl (by decide) rfl ?_
                  refine mv_goto (tgt := 25) d_Reader_cut_50 (by decide) ?_
                  have b64 : (i3_19 + 1).toInt = i3_19.toInt + 1 := mz_addn 1 1 (by decide) (by have := mz_lo i3_19; omega) (by have := mz_hi i3_19; omega)
                  exact (ih19 (i3_19 + 1) T46 M44 n45 I48 t51 (by first | omega | decide) (by omega))
        have b65 : (i1_5 + 1).toInt = i1_5.toInt + 1 := mz_addn 1 1 (by decide) (by have := mz_lo i1_5; omega) (by have := mz_hi i1_5; omega)
        exact mv_less (Nat.zero_le _) (Nat.zero_le _) (L25_19 4294967296 (i1_5 + 1) T12 M10 n11 I14 t17 (by first | omega | decide) (by have := mz_lo (i1_5 + 1); omega))
  exact mv_less (Nat.zero_le _) (Nat.zero_le _) (L7_5 4294967296 0 T0 M1 n0 I2 h_o0 (by first | omega | decide) (by show (2147483647 - (0 : Int) : Int) < _; decide))
theorem lV_Reader_76 : mj_lV "TrustDesk$Reader" 76 kY_Reader_cut 0 := ⟨⟨(mj_in1 (List.mem_of_getElem? (i := 365) (by decide +kernel)) rfl), (mj_in1 (List.mem_of_getElem? (i := 3) (by decide +kernel)) rfl), (mj_in1 (List.mem_of_getElem? (i := 368) (by decide +kernel)) rfl), by decide, rfl, by decide⟩, (mj_in1 (List.mem_of_getElem? (i := 367) (by decide +kernel)) rfl), (mj_in (List.mem_append_left _ (List.mem_of_getElem? (i := 2) (by decide +kernel))) rfl)⟩
theorem d_Reader_begin_24 : decode kY_Reader_begin.2.1 24 = .ok (.aload_n 0, 1) := by decide +kernel
theorem d_Reader_begin_25 : decode kY_Reader_begin.2.1 25 = .ok (.iconst (-1), 1) := by decide +kernel
theorem d_Reader_begin_26 : decode kY_Reader_begin.2.1 26 = .ok (.putfield 79, 3) := by decide +kernel
theorem p_Reader_79_9 : mj_fp "TrustDesk$Reader" 79 9 9 (kt_Reader 9) false := ⟨kR_Reader, kF_Reader, 19, "TrustDesk$Reader", kt_Reader, rfl, kg_9, by decide, (mj_in1 (List.mem_of_getElem? (i := 81) (by decide +kernel)) rfl), Or.inl rfl, kto_Reader, kn_Reader, rfl, rfl, fun h => by cases h⟩
theorem d_Reader_begin_29 : decode kY_Reader_begin.2.1 29 = .ok (.aload_n 0, 1) := by decide +kernel
theorem d_Reader_begin_30 : decode kY_Reader_begin.2.1 30 = .ok (.invokevirtual 82, 3) := by decide +kernel
abbrev kY_Reader_advance : mj_Y := (⟨"TrustDesk$Reader", "advance", "()V"⟩, prog_10_method_32_code, 2, (Option.none : Option Jvm.ClassFile.FieldType))
theorem d_Reader_advance_0 : decode kY_Reader_advance.2.1 0 = .ok (.aload_n 0, 1) := by decide +kernel
theorem d_Reader_advance_1 : decode kY_Reader_advance.2.1 1 = .ok (.dup, 1) := by decide +kernel
theorem d_Reader_advance_2 : decode kY_Reader_advance.2.1 2 = .ok (.getfield 79, 3) := by decide +kernel
theorem f_Reader_79_9 : mj_fl "TrustDesk$Reader" 79 9 9 := ⟨kR_Reader, kF_Reader, 19, "TrustDesk$Reader", rfl, kg_9, by decide, (mj_in1 (List.mem_of_getElem? (i := 81) (by decide +kernel)) rfl), Or.inl rfl⟩
theorem d_Reader_advance_5 : decode kY_Reader_advance.2.1 5 = .ok (.iconst 1, 1) := by decide +kernel
theorem d_Reader_advance_6 : decode kY_Reader_advance.2.1 6 = .ok (.iadd, 1) := by decide +kernel
theorem d_Reader_advance_7 : decode kY_Reader_advance.2.1 7 = .ok (.putfield 79, 3) := by decide +kernel
theorem d_Reader_advance_10 : decode kY_Reader_advance.2.1 10 = .ok (.aload_n 0, 1) := by decide +kernel
theorem d_Reader_advance_11 : decode kY_Reader_advance.2.1 11 = .ok (.getfield 79, 3) := by decide +kernel
theorem d_Reader_advance_14 : decode kY_Reader_advance.2.1 14 = .ok (.ifCond .lt 28, 3) := by decide +kernel
theorem d_Reader_advance_42 : decode kY_Reader_advance.2.1 42 = .ok (.iconst 0, 1) := by decide +kernel
theorem d_Reader_advance_43 : decode kY_Reader_advance.2.1 43 = .ok (.istore_n 1, 1) := by decide +kernel
theorem d_Reader_advance_44 : decode kY_Reader_advance.2.1 44 = .ok (.aload_n 0, 1) := by decide +kernel
theorem d_Reader_advance_45 : decode kY_Reader_advance.2.1 45 = .ok (.iload_n 1, 1) := by decide +kernel
theorem d_Reader_advance_46 : decode kY_Reader_advance.2.1 46 = .ok (.ifCond .eq 15, 3) := by decide +kernel
theorem d_Reader_advance_61 : decode kY_Reader_advance.2.1 61 = .ok (.iconst 0, 1) := by decide +kernel
theorem d_Reader_advance_62 : decode kY_Reader_advance.2.1 62 = .ok (.putfield 41, 3) := by decide +kernel
theorem p_Reader_41_9 : mj_fp "TrustDesk$Reader" 41 9 10 (kt_Reader 10) false := ⟨kR_Reader, kF_Reader, 19, "TrustDesk$Reader", kt_Reader, rfl, kg_9, by decide, (mj_in1 (List.mem_of_getElem? (i := 82) (by decide +kernel)) rfl), Or.inl rfl, kto_Reader, kn_Reader, rfl, rfl, fun h => by cases h⟩
theorem d_Reader_advance_65 : decode kY_Reader_advance.2.1 65 = .ok (.aload_n 0, 1) := by decide +kernel
theorem d_Reader_advance_66 : decode kY_Reader_advance.2.1 66 = .ok (.iload_n 1, 1) := by decide +kernel
theorem d_Reader_advance_67 : decode kY_Reader_advance.2.1 67 = .ok (.ifCond .eq 15, 3) := by decide +kernel
theorem d_Reader_advance_82 : decode kY_Reader_advance.2.1 82 = .ok (.aload_n 0, 1) := by decide +kernel
theorem d_Reader_advance_83 : decode kY_Reader_advance.2.1 83 = .ok (.getfield 34, 3) := by decide +kernel
theorem d_Reader_advance_86 : decode kY_Reader_advance.2.1 86 = .ok (.putfield 175, 3) := by decide +kernel
theorem p_Reader_175_9 : mj_fp "TrustDesk$Reader" 175 9 11 (kt_Reader 11) false := ⟨kR_Reader, kF_Reader, 19, "TrustDesk$Reader", kt_Reader, rfl, kg_9, by decide, (mj_in1 (List.mem_of_getElem? (i := 83) (by decide +kernel)) rfl), Or.inl rfl, kto_Reader, kn_Reader, rfl, rfl, fun h => by cases h⟩
theorem d_Reader_advance_89 : decode kY_Reader_advance.2.1 89 = .ok (.aload_n 0, 1) := by decide +kernel
theorem d_Reader_advance_90 : decode kY_Reader_advance.2.1 90 = .ok (.iload_n 1, 1) := by decide +kernel
theorem d_Reader_advance_91 : decode kY_Reader_advance.2.1 91 = .ok (.ifCond .eq 15, 3) := by decide +kernel
theorem d_Reader_advance_106 : decode kY_Reader_advance.2.1 106 = .ok (.aload_n 0, 1) := by decide +kernel
theorem d_Reader_advance_107 : decode kY_Reader_advance.2.1 107 = .ok (.getfield 34, 3) := by decide +kernel
theorem d_Reader_advance_110 : decode kY_Reader_advance.2.1 110 = .ok (.putfield 172, 3) := by decide +kernel
theorem p_Reader_172_9 : mj_fp "TrustDesk$Reader" 172 9 12 (kt_Reader 12) false := ⟨kR_Reader, kF_Reader, 19, "TrustDesk$Reader", kt_Reader, rfl, kg_9, by decide, (mj_in1 (List.mem_of_getElem? (i := 84) (by decide +kernel)) rfl), Or.inl rfl, kto_Reader, kn_Reader, rfl, rfl, fun h => by cases h⟩
theorem d_Reader_advance_113 : decode kY_Reader_advance.2.1 113 = .ok (.aload_n 0, 1) := by decide +kernel
theorem d_Reader_advance_114 : decode kY_Reader_advance.2.1 114 = .ok (.iload_n 1, 1) := by decide +kernel
theorem d_Reader_advance_115 : decode kY_Reader_advance.2.1 115 = .ok (.ifCond .eq 15, 3) := by decide +kernel
theorem d_Reader_advance_130 : decode kY_Reader_advance.2.1 130 = .ok (.iconst (-1), 1) := by decide +kernel
theorem d_Reader_advance_131 : decode kY_Reader_advance.2.1 131 = .ok (.putfield 241, 3) := by decide +kernel
theorem p_Reader_241_9 : mj_fp "TrustDesk$Reader" 241 9 13 (kt_Reader 13) false := ⟨kR_Reader, kF_Reader, 19, "TrustDesk$Reader", kt_Reader, rfl, kg_9, by decide, (mj_in1 (List.mem_of_getElem? (i := 85) (by decide +kernel)) rfl), Or.inl rfl, kto_Reader, kn_Reader, rfl, rfl, fun h => by cases h⟩
theorem d_Reader_advance_134 : decode kY_Reader_advance.2.1 134 = .ok (.return_, 1) := by decide +kernel
theorem d_Reader_advance_17 : decode kY_Reader_advance.2.1 17 = .ok (.aload_n 0, 1) := by decide +kernel
theorem d_Reader_advance_18 : decode kY_Reader_advance.2.1 18 = .ok (.getfield 79, 3) := by decide +kernel
theorem d_Reader_advance_21 : decode kY_Reader_advance.2.1 21 = .ok (.aload_n 0, 1) := by decide +kernel
theorem d_Reader_advance_22 : decode kY_Reader_advance.2.1 22 = .ok (.getfield 244, 3) := by decide +kernel
theorem d_Reader_advance_25 : decode kY_Reader_advance.2.1 25 = .ok (.if_icmp .ge 17, 3) := by decide +kernel
theorem d_Reader_advance_28 : decode kY_Reader_advance.2.1 28 = .ok (.aload_n 0, 1) := by decide +kernel
theorem d_Reader_advance_29 : decode kY_Reader_advance.2.1 29 = .ok (.getfield 79, 3) := by decide +kernel
theorem d_Reader_advance_32 : decode kY_Reader_advance.2.1 32 = .ok (.sipush 400, 3) := by decide +kernel
theorem d_Reader_advance_35 : decode kY_Reader_advance.2.1 35 = .ok (.if_icmp .ge 7, 3) := by decide +kernel
theorem d_Reader_advance_38 : decode kY_Reader_advance.2.1 38 = .ok (.iconst 1, 1) := by decide +kernel
theorem d_Reader_advance_39 : decode kY_Reader_advance.2.1 39 = .ok (.goto 4, 3) := by decide +kernel
theorem d_Reader_advance_49 : decode kY_Reader_advance.2.1 49 = .ok (.aload_n 0, 1) := by decide +kernel
theorem d_Reader_advance_50 : decode kY_Reader_advance.2.1 50 = .ok (.getfield 19, 3) := by decide +kernel
theorem d_Reader_advance_53 : decode kY_Reader_advance.2.1 53 = .ok (.aload_n 0, 1) := by decide +kernel
theorem d_Reader_advance_54 : decode kY_Reader_advance.2.1 54 = .ok (.getfield 79, 3) := by decide +kernel
theorem d_Reader_advance_57 : decode kY_Reader_advance.2.1 57 = .ok (.iaload, 1) := by decide +kernel
theorem d_Reader_advance_58 : decode kY_Reader_advance.2.1 58 = .ok (.goto 4, 3) := by decide +kernel
theorem d_Reader_advance_70 : decode kY_Reader_advance.2.1 70 = .ok (.aload_n 0, 1) := by decide +kernel
theorem d_Reader_advance_71 : decode kY_Reader_advance.2.1 71 = .ok (.getfield 22, 3) := by decide +kernel
theorem d_Reader_advance_74 : decode kY_Reader_advance.2.1 74 = .ok (.aload_n 0, 1) := by decide +kernel
theorem d_Reader_advance_75 : decode kY_Reader_advance.2.1 75 = .ok (.getfield 79, 3) := by decide +kernel
theorem d_Reader_advance_78 : decode kY_Reader_advance.2.1 78 = .ok (.iaload, 1) := by decide +kernel
theorem d_Reader_advance_79 : decode kY_Reader_advance.2.1 79 = .ok (.goto 7, 3) := by decide +kernel
theorem d_Reader_advance_94 : decode kY_Reader_advance.2.1 94 = .ok (.aload_n 0, 1) := by decide +kernel
theorem d_Reader_advance_95 : decode kY_Reader_advance.2.1 95 = .ok (.getfield 25, 3) := by decide +kernel
theorem d_Reader_advance_98 : decode kY_Reader_advance.2.1 98 = .ok (.aload_n 0, 1) := by decide +kernel
theorem d_Reader_advance_99 : decode kY_Reader_advance.2.1 99 = .ok (.getfield 79, 3) := by decide +kernel
theorem d_Reader_advance_102 : decode kY_Reader_advance.2.1 102 = .ok (.iaload, 1) := by decide +kernel
theorem d_Reader_advance_103 : decode kY_Reader_advance.2.1 103 = .ok (.goto 7, 3) := by decide +kernel
theorem d_Reader_advance_118 : decode kY_Reader_advance.2.1 118 = .ok (.aload_n 0, 1) := by decide +kernel
theorem d_Reader_advance_119 : decode kY_Reader_advance.2.1 119 = .ok (.getfield 28, 3) := by decide +kernel
theorem d_Reader_advance_122 : decode kY_Reader_advance.2.1 122 = .ok (.aload_n 0, 1) := by decide +kernel
theorem d_Reader_advance_123 : decode kY_Reader_advance.2.1 123 = .ok (.getfield 79, 3) := by decide +kernel
theorem d_Reader_advance_126 : decode kY_Reader_advance.2.1 126 = .ok (.iaload, 1) := by decide +kernel
theorem d_Reader_advance_127 : decode kY_Reader_advance.2.1 127 = .ok (.goto 4, 3) := by decide +kernel
def w_Reader_advance : List Nat := [909, 910, 911, 912, 913]
theorem tc_Reader_advance {g : mj_G} {l : Launch} {d : Nat} {T0 : tm_H} {M0 : mj_M} {n0 x9 : Nat} {o0 : Nat} (h_o0 : T0 o0 = some (0, 9, 0)) (I0 : tm_I tm_FT (tm_in w_Reader_advance) x9 T0 M0 n0 T0 M0 n0) : mj_Met g l kY_Reader_advance d [.ref o0] M0 n0 0 0 (tm_Q tm_FT (tm_in w_Reader_advance) x9 T0 M0 n0 (fun r _ _ => r = none)) := by
  refine mj_enter (by decide) (Nat.le_of_ble_eq_true rfl) ?_
  refine mv_aload_n d_Reader_advance_0 rfl rfl ?_
  refine mv_dup d_Reader_advance_1 rfl ?_
  obtain ⟨v2, q1⟩ := tm_atI I0 h_o0 (k := 9) rfl
  refine tr_getK q1 d_Reader_advance_2 f_Reader_79_9 ?_
  refine mv_iconst (v := 1) d_Reader_advance_5 (by decide) ?_
  refine mv_iadd d_Reader_advance_6 ?_
  refine tr_putK tm_okF I0 h_o0 (k := 9) rfl ⟨_, rfl⟩ (Or.inl (by decide)) d_Reader_advance_7 p_Reader_79_9 rfl rfl (fun M3 I4 q5 K6 => ?_)
  refine mv_aload_n d_Reader_advance_10 rfl rfl ?_
  refine tr_getK (k := 9) q5 d_Reader_advance_11 f_Reader_79_9 ?_
  have := mz_hi (v2 + 1)
  refine mv_if_ltZ (tgt := 42) (a := (v2 + 1).toInt) d_Reader_advance_14 (by decide) rfl (fun b7 => ?_) (fun b7 => ?_)
  · refine mv_iconst (v := 0) d_Reader_advance_42 (by decide) ?_
    refine mv_istore_n (lv' := [(1, .int 0), (0, .ref o0)]) d_Reader_advance_43 rfl (by decide) rfl ?_
    refine mv_aload_n d_Reader_advance_44 rfl rfl ?_
    refine mv_iload_n d_Reader_advance_45 rfl rfl ?_
    refine mv_if_eq_t (tgt := 61) d_Reader_advance_46 (by decide) (by decide) ?_
    refine mv_iconst (v := 0) d_Reader_advance_61 (by decide) ?_
    refine tr_putK tm_okF I4 h_o0 (k := 10) rfl ⟨_, rfl⟩ (Or.inl (by decide)) d_Reader_advance_62 p_Reader_41_9 rfl rfl (fun M8 I9 q10 K11 => ?_)
    refine mv_aload_n d_Reader_advance_65 rfl rfl ?_
    refine mv_iload_n d_Reader_advance_66 rfl rfl ?_
    refine mv_if_eq_t (tgt := 82) d_Reader_advance_67 (by decide) (by decide) ?_
    refine mv_aload_n d_Reader_advance_82 rfl rfl ?_
    obtain ⟨v13, q12⟩ := tm_atI I9 h_o0 (k := 0) rfl
    refine tr_getK q12 d_Reader_advance_83 f_Reader_34_9 ?_
    refine tr_putK tm_okF I9 h_o0 (k := 11) rfl ⟨_, rfl⟩ (Or.inl (by decide)) d_Reader_advance_86 p_Reader_175_9 rfl rfl (fun M14 I15 q16 K17 => ?_)
    refine mv_aload_n d_Reader_advance_89 rfl rfl ?_
    refine mv_iload_n d_Reader_advance_90 rfl rfl ?_
    refine mv_if_eq_t (tgt := 106) d_Reader_advance_91 (by decide) (by decide) ?_
    refine mv_aload_n d_Reader_advance_106 rfl rfl ?_
    refine tr_getK (k := 0) (K17 _ 9 0 _ rfl q12) d_Reader_advance_107 f_Reader_34_9 ?_
    refine tr_putK tm_okF I15 h_o0 (k := 12) rfl ⟨_, rfl⟩ (Or.inl (by decide)) d_Reader_advance_110 p_Reader_172_9 rfl rfl (fun M18 I19 q20 K21 => ?_)
    refine mv_aload_n d_Reader_advance_113 rfl rfl ?_
    refine mv_iload_n d_Reader_advance_114 rfl rfl ?_
    refine mv_if_eq_t (tgt := 130) d_Reader_advance_115 (by decide) (by decide) ?_
    refine mv_iconst (v := (-1)) d_Reader_advance_130 (by decide) ?_
    refine tr_putK tm_okF I19 h_o0 (k := 13) rfl ⟨_, rfl⟩ (Or.inl (by decide)) d_Reader_advance_131 p_Reader_241_9 rfl rfl (fun M22 I23 q24 K25 => ?_)
    exact mv_vret d_Reader_advance_134 rfl ⟨_, I23, rfl⟩
  · refine mv_aload_n d_Reader_advance_17 rfl rfl ?_
    refine tr_getK (k := 9) q5 d_Reader_advance_18 f_Reader_79_9 ?_
    refine mv_aload_n d_Reader_advance_21 rfl rfl ?_
    obtain ⟨v27, q26⟩ := tm_atI I4 h_o0 (k := 8) rfl
    refine tr_getK q26 d_Reader_advance_22 f_Reader_244_9 ?_
    have := mz_hi (v2 + 1)
    have := mz_hi v27
    refine mv_icmp_geZ (tgt := 42) (a := (v2 + 1).toInt) (b := v27.toInt) d_Reader_advance_25 (by decide) rfl rfl (fun b28 => ?_) (fun b28 => ?_)
    · refine mv_iconst (v := 0) d_Reader_advance_42 (by decide) ?_
      refine mv_istore_n (lv' := [(1, .int 0), (0, .ref o0)]) d_Reader_advance_43 rfl (by decide) rfl ?_
      refine mv_aload_n d_Reader_advance_44 rfl rfl ?_
      refine mv_iload_n d_Reader_advance_45 rfl rfl ?_
      refine mv_if_eq_t (tgt := 61) d_Reader_advance_46 (by decide) (by decide) ?_
      refine mv_iconst (v := 0) d_Reader_advance_61 (by decide) ?_
      refine tr_putK tm_okF I4 h_o0 (k := 10) rfl ⟨_, rfl⟩ (Or.inl (by decide)) d_Reader_advance_62 p_Reader_41_9 rfl rfl (fun M29 I30 q31 K32 => ?_)
      refine mv_aload_n d_Reader_advance_65 rfl rfl ?_
      refine mv_iload_n d_Reader_advance_66 rfl rfl ?_
      refine mv_if_eq_t (tgt := 82) d_Reader_advance_67 (by decide) (by decide) ?_
      refine mv_aload_n d_Reader_advance_82 rfl rfl ?_
      obtain ⟨v34, q33⟩ := tm_atI I30 h_o0 (k := 0) rfl
      refine tr_getK q33 d_Reader_advance_83 f_Reader_34_9 ?_
      refine tr_putK tm_okF I30 h_o0 (k := 11) rfl ⟨_, rfl⟩ (Or.inl (by decide)) d_Reader_advance_86 p_Reader_175_9 rfl rfl (fun M35 I36 q37 K38 => ?_)
      refine mv_aload_n d_Reader_advance_89 rfl rfl ?_
      refine mv_iload_n d_Reader_advance_90 rfl rfl ?_
      refine mv_if_eq_t (tgt := 106) d_Reader_advance_91 (by decide) (by decide) ?_
      refine mv_aload_n d_Reader_advance_106 rfl rfl ?_
      refine tr_getK (k := 0) (K38 _ 9 0 _ rfl q33) d_Reader_advance_107 f_Reader_34_9 ?_
      refine tr_putK tm_okF I36 h_o0 (k := 12) rfl ⟨_, rfl⟩ (Or.inl (by decide)) d_Reader_advance_110 p_Reader_172_9 rfl rfl (fun M39 I40 q41 K42 => ?_)
      refine mv_aload_n d_Reader_advance_113 rfl rfl ?_
      refine mv_iload_n d_Reader_advance_114 rfl rfl ?_
      refine mv_if_eq_t (tgt := 130) d_Reader_advance_115 (by decide) (by decide) ?_
      refine mv_iconst (v := (-1)) d_Reader_advance_130 (by decide) ?_
      refine tr_putK tm_okF I40 h_o0 (k := 13) rfl ⟨_, rfl⟩ (Or.inl (by decide)) d_Reader_advance_131 p_Reader_241_9 rfl rfl (fun M43 I44 q45 K46 => ?_)
      exact mv_vret d_Reader_advance_134 rfl ⟨_, I44, rfl⟩
    · refine mv_aload_n d_Reader_advance_28 rfl rfl ?_
      refine tr_getK (k := 9) q5 d_Reader_advance_29 f_Reader_79_9 ?_
      refine mv_sipush (v := 400) d_Reader_advance_32 (by decide) ?_
      have := mz_hi (v2 + 1)
      refine mv_icmp_geZ (tgt := 42) (a := (v2 + 1).toInt) (b := 400) d_Reader_advance_35 (by decide) rfl (by decide) (fun b47 => ?_) (fun b47 => ?_)
      · refine mv_iconst (v := 0) d_Reader_advance_42 (by decide) ?_
        refine mv_istore_n (lv' := [(1, .int 0), (0, .ref o0)]) d_Reader_advance_43 rfl (by decide) rfl ?_
        refine mv_aload_n d_Reader_advance_44 rfl rfl ?_
        refine mv_iload_n d_Reader_advance_45 rfl rfl ?_
        refine mv_if_eq_t (tgt := 61) d_Reader_advance_46 (by decide) (by decide) ?_
        refine mv_iconst (v := 0) d_Reader_advance_61 (by decide) ?_
        refine tr_putK tm_okF I4 h_o0 (k := 10) rfl ⟨_, rfl⟩ (Or.inl (by decide)) d_Reader_advance_62 p_Reader_41_9 rfl rfl (fun M48 I49 q50 K51 => ?_)
        refine mv_aload_n d_Reader_advance_65 rfl rfl ?_
        refine mv_iload_n d_Reader_advance_66 rfl rfl ?_
        refine mv_if_eq_t (tgt := 82) d_Reader_advance_67 (by decide) (by decide) ?_
        refine mv_aload_n d_Reader_advance_82 rfl rfl ?_
        obtain ⟨v53, q52⟩ := tm_atI I49 h_o0 (k := 0) rfl
        refine tr_getK q52 d_Reader_advance_83 f_Reader_34_9 ?_
        refine tr_putK tm_okF I49 h_o0 (k := 11) rfl ⟨_, rfl⟩ (Or.inl (by decide)) d_Reader_advance_86 p_Reader_175_9 rfl rfl (fun M54 I55 q56 K57 => ?_)
        refine mv_aload_n d_Reader_advance_89 rfl rfl ?_
        refine mv_iload_n d_Reader_advance_90 rfl rfl ?_
        refine mv_if_eq_t (tgt := 106) d_Reader_advance_91 (by decide) (by decide) ?_
        refine mv_aload_n d_Reader_advance_106 rfl rfl ?_
        refine tr_getK (k := 0) (K57 _ 9 0 _ rfl q52) d_Reader_advance_107 f_Reader_34_9 ?_
        refine tr_putK tm_okF I55 h_o0 (k := 12) rfl ⟨_, rfl⟩ (Or.inl (by decide)) d_Reader_advance_110 p_Reader_172_9 rfl rfl (fun M58 I59 q60 K61 => ?_)
        refine mv_aload_n d_Reader_advance_113 rfl rfl ?_
        refine mv_iload_n d_Reader_advance_114 rfl rfl ?_
        refine mv_if_eq_t (tgt := 130) d_Reader_advance_115 (by decide) (by decide) ?_
        refine mv_iconst (v := (-1)) d_Reader_advance_130 (by decide) ?_
        refine tr_putK tm_okF I59 h_o0 (k := 13) rfl ⟨_, rfl⟩ (Or.inl (by decide)) d_Reader_advance_131 p_Reader_241_9 rfl rfl (fun M62 I63 q64 K65 => ?_)
        exact mv_vret d_Reader_advance_134 rfl ⟨_, I63, rfl⟩
      · refine mv_iconst (v := 1) d_Reader_advance_38 (by decide) ?_
        refine mv_goto (tgt := 43) d_Reader_advance_39 (by decide) ?_
        refine mv_istore_n (lv' := [(1, .int 1), (0, .ref o0)]) d_Reader_advance_43 rfl (by decide) rfl ?_
        refine mv_aload_n d_Reader_advance_44 rfl rfl ?_
        refine mv_iload_n d_Reader_advance_45 rfl rfl ?_
        refine mv_if_eq_f (tgt := 61) d_Reader_advance_46 (by decide) (by decide) ?_
        refine mv_aload_n d_Reader_advance_49 rfl rfl ?_
        obtain ⟨a67, q66, t_a67⟩ := tm_atR I4 h_o0 (k := 4) rfl
        refine tr_getK q66 d_Reader_advance_50 f_Reader_19_9 ?_
        refine mv_aload_n d_Reader_advance_53 rfl rfl ?_
        refine tr_getK (k := 9) q5 d_Reader_advance_54 f_Reader_79_9 ?_
        refine tr_iald I4 t_a67 (by decide) d_Reader_advance_57 (vp_in_iff.mpr (by omega)) (fun v68 => ?_)
        refine mv_goto (tgt := 62) d_Reader_advance_58 (by decide) ?_
        refine tr_putK tm_okF I4 h_o0 (k := 10) rfl ⟨_, rfl⟩ (Or.inl (by decide)) d_Reader_advance_62 p_Reader_41_9 rfl rfl (fun M69 I70 q71 K72 => ?_)
        refine mv_aload_n d_Reader_advance_65 rfl rfl ?_
        refine mv_iload_n d_Reader_advance_66 rfl rfl ?_
        refine mv_if_eq_f (tgt := 82) d_Reader_advance_67 (by decide) (by decide) ?_
        refine mv_aload_n d_Reader_advance_70 rfl rfl ?_
        obtain ⟨a74, q73, t_a74⟩ := tm_atR I70 h_o0 (k := 5) rfl
        refine tr_getK q73 d_Reader_advance_71 f_Reader_22_9 ?_
        refine mv_aload_n d_Reader_advance_74 rfl rfl ?_
        refine tr_getK (k := 9) (K72 _ 9 9 _ rfl q5) d_Reader_advance_75 f_Reader_79_9 ?_
        refine tr_iald I70 t_a74 (by decide) d_Reader_advance_78 (vp_in_iff.mpr (by omega)) (fun v75 => ?_)
        refine mv_goto (tgt := 86) d_Reader_advance_79 (by decide) ?_
        refine tr_putK tm_okF I70 h_o0 (k := 11) rfl ⟨_, rfl⟩ (Or.inl (by decide)) d_Reader_advance_86 p_Reader_175_9 rfl rfl (fun M76 I77 q78 K79 => ?_)
        refine mv_aload_n d_Reader_advance_89 rfl rfl ?_
        refine mv_iload_n d_Reader_advance_90 rfl rfl ?_
        refine mv_if_eq_f (tgt := 106) d_Reader_advance_91 (by decide) (by decide) ?_
        refine mv_aload_n d_Reader_advance_94 rfl rfl ?_
        obtain ⟨a81, q80, t_a81⟩ := tm_atR I77 h_o0 (k := 6) rfl
        refine tr_getK q80 d_Reader_advance_95 f_Reader_25_9 ?_
        refine mv_aload_n d_Reader_advance_98 rfl rfl ?_
        refine tr_getK (k := 9) (K79 _ 9 9 _ rfl (K72 _ 9 9 _ rfl q5)) d_Reader_advance_99 f_Reader_79_9 ?_
        refine tr_iald I77 t_a81 (by decide) d_Reader_advance_102 (vp_in_iff.mpr (by omega)) (fun v82 => ?_)
        refine mv_goto (tgt := 110) d_Reader_advance_103 (by decide) ?_
        refine tr_putK tm_okF I77 h_o0 (k := 12) rfl ⟨_, rfl⟩ (Or.inl (by decide)) d_Reader_advance_110 p_Reader_172_9 rfl rfl (fun M83 I84 q85 K86 => ?_)
        refine mv_aload_n d_Reader_advance_113 rfl rfl ?_
        refine mv_iload_n d_Reader_advance_114 rfl rfl ?_
        refine mv_if_eq_f (tgt := 130) d_Reader_advance_115 (by decide) (by decide) ?_
        refine mv_aload_n d_Reader_advance_118 rfl rfl ?_
        obtain ⟨a88, q87, t_a88⟩ := tm_atR I84 h_o0 (k := 7) rfl
        refine tr_getK q87 d_Reader_advance_119 f_Reader_28_9 ?_
        refine mv_aload_n d_Reader_advance_122 rfl rfl ?_
        refine tr_getK (k := 9) (K86 _ 9 9 _ rfl (K79 _ 9 9 _ rfl (K72 _ 9 9 _ rfl q5))) d_Reader_advance_123 f_Reader_79_9 ?_
        refine tr_iald I84 t_a88 (by decide) d_Reader_advance_126 (vp_in_iff.mpr (by omega)) (fun v89 => ?_)
        refine mv_goto (tgt := 131) d_Reader_advance_127 (by decide) ?_
        refine tr_putK tm_okF I84 h_o0 (k := 13) rfl ⟨_, rfl⟩ (Or.inl (by decide)) d_Reader_advance_131 p_Reader_241_9 rfl rfl (fun M90 I91 q92 K93 => ?_)
        exact mv_vret d_Reader_advance_134 rfl ⟨_, I91, rfl⟩
theorem lV_Reader_82 : mj_lV "TrustDesk$Reader" 82 kY_Reader_advance 0 := ⟨⟨(mj_in1 (List.mem_of_getElem? (i := 447) (by decide +kernel)) rfl), (mj_in1 (List.mem_of_getElem? (i := 3) (by decide +kernel)) rfl), (mj_in1 (List.mem_of_getElem? (i := 450) (by decide +kernel)) rfl), by decide, rfl, by decide⟩, (mj_in1 (List.mem_of_getElem? (i := 449) (by decide +kernel)) rfl), (mj_in (List.mem_append_left _ (List.mem_of_getElem? (i := 10) (by decide +kernel))) rfl)⟩
theorem d_Reader_begin_33 : decode kY_Reader_begin.2.1 33 = .ok (.return_, 1) := by decide +kernel
def w_Reader_begin : List Nat := [901, 902, 908, 909, 910, 911, 912, 913, 915, 916, 954, 955, 956, 957]
theorem tc_Reader_begin {g : mj_G} {l : Launch} {d : Nat} {T0 : tm_H} {M0 : mj_M} {n0 x9 : Nat} {o0 : Nat} {x1 : Int32} (h_o0 : T0 o0 = some (0, 9, 0)) (I0 : tm_I tm_FT (tm_in w_Reader_begin) x9 T0 M0 n0 T0 M0 n0) : mj_Met g l kY_Reader_begin (d + 9) [.ref o0, .int x1] M0 n0 0 0 (tm_Q tm_FT (tm_in w_Reader_begin) x9 T0 M0 n0 (fun r _ M => r = none ∧ tm_at M o0 9 16 (.int 0))) := by
  refine mj_enter (by decide) (Nat.le_of_ble_eq_true rfl) ?_
  refine mv_aload_n d_Reader_begin_0 rfl rfl ?_
  refine mv_iload_n d_Reader_begin_1 rfl rfl ?_
  refine tr_putK tm_okF I0 h_o0 (k := 15) rfl ⟨_, rfl⟩ (Or.inl (by decide)) d_Reader_begin_2 p_Reader_67_9 rfl rfl (fun M1 I2 q3 K4 => ?_)
  refine mv_aload_n d_Reader_begin_5 rfl rfl ?_
  refine mv_iconst (v := 0) d_Reader_begin_6 (by decide) ?_
  refine tr_putK tm_okF I2 h_o0 (k := 1) rfl ⟨_, rfl⟩ (Or.inl (by decide)) d_Reader_begin_7 p_Reader_70_9 rfl rfl (fun M5 I6 q7 K8 => ?_)
  refine mv_aload_n d_Reader_begin_10 rfl rfl ?_
  refine mv_iconst (v := (-1)) d_Reader_begin_11 (by decide) ?_
  refine tr_putK tm_okF I6 h_o0 (k := 2) rfl ⟨_, rfl⟩ (Or.inl (by decide)) d_Reader_begin_12 p_Reader_11_9 rfl rfl (fun M9 I10 q11 K12 => ?_)
  refine mv_aload_n d_Reader_begin_15 rfl rfl ?_
  refine mv_iconst (v := 0) d_Reader_begin_16 (by decide) ?_
  refine tr_putK tm_okF I10 h_o0 (k := 16) rfl ⟨_, rfl⟩ (Or.inl (by decide)) d_Reader_begin_17 p_Reader_73_9 rfl rfl (fun M13 I14 q15 K16 => ?_)
  refine mv_aload_n d_Reader_begin_20 rfl rfl ?_
  obtain ⟨_, b23, -⟩ := I14.1 _ _ h_o0
  refine mv_callV (kc' := 0) (ks' := 0) (As := []) (st9 := [.ref o0]) d_Reader_begin_21 lV_Reader_76 b23 rfl (tc_Reader_cut (d := d) (x9 := x9) (o0 := o0) h_o0 I14.start) rfl (Nat.le_of_ble_eq_true rfl) (Nat.le_of_ble_eq_true rfl) (Nat.le_of_ble_eq_true rfl) (hst := rfl) (fun b17r M18 n19 b17 => ?_)
  obtain ⟨T20, J21, rfl⟩ := b17
  have I22 := I14.call J21 (tm_sub (by decide)) (Or.inl rfl)
  have t24 := J21.up h_o0
  have q25 := J21.keep h_o0 (by decide) (K16 _ 9 15 _ rfl (K12 _ 9 15 _ rfl (K8 _ 9 15 _ rfl q3)))
  have q26 := J21.keep h_o0 (by decide) (K16 _ 9 1 _ rfl (K12 _ 9 1 _ rfl q7))
  have q27 := J21.keep h_o0 (by decide) (K16 _ 9 2 _ rfl q11)
  have q28 := J21.keep h_o0 (by decide) q15
  refine mv_aload_n d_Reader_begin_24 rfl rfl ?_
  refine mv_iconst (v := (-1)) d_Reader_begin_25 (by decide) ?_
  refine tr_putK tm_okF I22 t24 (k := 9) rfl ⟨_, rfl⟩ (Or.inl (by decide)) d_Reader_begin_26 p_Reader_79_9 rfl rfl (fun M29 I30 q31 K32 => ?_)
  refine mv_aload_n d_Reader_begin_29 rfl rfl ?_
  obtain ⟨_, b39, -⟩ := I30.1 _ _ t24
  refine mv_callV (kc' := 0) (ks' := 0) (As := []) (st9 := [.ref o0]) d_Reader_begin_30 lV_Reader_82 b39 rfl (tc_Reader_advance (d := (d + 8)) (x9 := x9) (o0 := o0) t24 I30.start) rfl (Nat.le_of_ble_eq_true rfl) (Nat.le_of_ble_eq_true rfl) (Nat.le_of_ble_eq_true rfl) (hst := rfl) (fun b33r M34 n35 b33 => ?_)
  obtain ⟨T36, J37, rfl⟩ := b33
  have I38 := I30.call J37 (tm_sub (by decide)) (Or.inl rfl)
  have t40 := J37.up t24
  have q41 := J37.keep t24 (by decide) (K32 _ 9 15 _ rfl q25)
  have q42 := J37.keep t24 (by decide) (K32 _ 9 1 _ rfl q26)
  have q43 := J37.keep t24 (by decide) (K32 _ 9 2 _ rfl q27)
  have q44 := J37.keep t24 (by decide) (K32 _ 9 16 _ rfl q28)
  exact mv_vret d_Reader_begin_33 rfl ⟨_, I38, rfl, q44⟩
theorem lV_Reader_37 : mj_lV "TrustDesk$Reader" 37 kY_Reader_begin 1 := ⟨⟨(mj_in1 (List.mem_of_getElem? (i := 361) (by decide +kernel)) rfl), (mj_in1 (List.mem_of_getElem? (i := 3) (by decide +kernel)) rfl), (mj_in1 (List.mem_of_getElem? (i := 364) (by decide +kernel)) rfl), by decide, rfl, by decide⟩, (mj_in1 (List.mem_of_getElem? (i := 363) (by decide +kernel)) rfl), (mj_in (List.mem_append_left _ (List.mem_of_getElem? (i := 1) (by decide +kernel))) rfl)⟩
theorem d_Reader_readAct_6 : decode kY_Reader_readAct.2.1 6 = .ok (.iconst 0, 1) := by decide +kernel
theorem d_Reader_readAct_7 : decode kY_Reader_readAct.2.1 7 = .ok (.istore_n 2, 1) := by decide +kernel
theorem d_Reader_readAct_8 : decode kY_Reader_readAct.2.1 8 = .ok (.iload_n 2, 1) := by decide +kernel
theorem d_Reader_readAct_9 : decode kY_Reader_readAct.2.1 9 = .ok (.bipush 20, 2) := by decide +kernel
theorem d_Reader_readAct_11 : decode kY_Reader_readAct.2.1 11 = .ok (.if_icmp .gt 26, 3) := by decide +kernel
theorem d_Reader_readAct_37 : decode kY_Reader_readAct.2.1 37 = .ok (.iconst 1, 1) := by decide +kernel
theorem d_Reader_readAct_38 : decode kY_Reader_readAct.2.1 38 = .ok (.ireturn, 1) := by decide +kernel
theorem d_Reader_readAct_14 : decode kY_Reader_readAct.2.1 14 = .ok (.aload_n 0, 1) := by decide +kernel
theorem d_Reader_readAct_15 : decode kY_Reader_readAct.2.1 15 = .ok (.getfield 41, 3) := by decide +kernel
theorem f_Reader_41_9 : mj_fl "TrustDesk$Reader" 41 9 10 := ⟨kR_Reader, kF_Reader, 19, "TrustDesk$Reader", rfl, kg_9, by decide, (mj_in1 (List.mem_of_getElem? (i := 82) (by decide +kernel)) rfl), Or.inl rfl⟩
theorem d_Reader_readAct_18 : decode kY_Reader_readAct.2.1 18 = .ok (.ifCond .eq 19, 3) := by decide +kernel
theorem d_Reader_readAct_21 : decode kY_Reader_readAct.2.1 21 = .ok (.aload_n 0, 1) := by decide +kernel
theorem d_Reader_readAct_22 : decode kY_Reader_readAct.2.1 22 = .ok (.aload_n 1, 1) := by decide +kernel
theorem d_Reader_readAct_23 : decode kY_Reader_readAct.2.1 23 = .ok (.invokevirtual 44, 3) := by decide +kernel
abbrev kY_Reader_rule : mj_Y := (⟨"TrustDesk$Reader", "rule", "(LTrustDesk$Act;)Z"⟩, prog_10_method_7_code, 4, (Option.some Jvm.ClassFile.FieldType.boolean))
theorem d_Reader_rule_0 : decode kY_Reader_rule.2.1 0 = .ok (.aload_n 0, 1) := by decide +kernel
theorem d_Reader_rule_1 : decode kY_Reader_rule.2.1 1 = .ok (.bipush 13, 2) := by decide +kernel
theorem d_Reader_rule_3 : decode kY_Reader_rule.2.1 3 = .ok (.bipush 6, 2) := by decide +kernel
theorem d_Reader_rule_5 : decode kY_Reader_rule.2.1 5 = .ok (.invokevirtual 85, 3) := by decide +kernel
abbrev kY_Reader_valueAmong : mj_Y := (⟨"TrustDesk$Reader", "valueAmong", "(II)I"⟩, prog_10_method_31_code, 3, (Option.some Jvm.ClassFile.FieldType.int))
theorem d_Reader_valueAmong_0 : decode kY_Reader_valueAmong.2.1 0 = .ok (.aload_n 0, 1) := by decide +kernel
theorem d_Reader_valueAmong_1 : decode kY_Reader_valueAmong.2.1 1 = .ok (.getfield 41, 3) := by decide +kernel
theorem d_Reader_valueAmong_4 : decode kY_Reader_valueAmong.2.1 4 = .ok (.iconst 1, 1) := by decide +kernel
theorem d_Reader_valueAmong_5 : decode kY_Reader_valueAmong.2.1 5 = .ok (.if_icmp .ne 30, 3) := by decide +kernel
theorem d_Reader_valueAmong_35 : decode kY_Reader_valueAmong.2.1 35 = .ok (.iconst (-1), 1) := by decide +kernel
theorem d_Reader_valueAmong_36 : decode kY_Reader_valueAmong.2.1 36 = .ok (.ireturn, 1) := by decide +kernel
theorem d_Reader_valueAmong_8 : decode kY_Reader_valueAmong.2.1 8 = .ok (.aload_n 0, 1) := by decide +kernel
theorem d_Reader_valueAmong_9 : decode kY_Reader_valueAmong.2.1 9 = .ok (.getfield 241, 3) := by decide +kernel
theorem f_Reader_241_9 : mj_fl "TrustDesk$Reader" 241 9 13 := ⟨kR_Reader, kF_Reader, 19, "TrustDesk$Reader", rfl, kg_9, by decide, (mj_in1 (List.mem_of_getElem? (i := 85) (by decide +kernel)) rfl), Or.inl rfl⟩
theorem d_Reader_valueAmong_12 : decode kY_Reader_valueAmong.2.1 12 = .ok (.iload_n 1, 1) := by decide +kernel
theorem d_Reader_valueAmong_13 : decode kY_Reader_valueAmong.2.1 13 = .ok (.if_icmp .lt 22, 3) := by decide +kernel
theorem d_Reader_valueAmong_16 : decode kY_Reader_valueAmong.2.1 16 = .ok (.aload_n 0, 1) := by decide +kernel
theorem d_Reader_valueAmong_17 : decode kY_Reader_valueAmong.2.1 17 = .ok (.getfield 241, 3) := by decide +kernel
theorem d_Reader_valueAmong_20 : decode kY_Reader_valueAmong.2.1 20 = .ok (.iload_n 1, 1) := by decide +kernel
theorem d_Reader_valueAmong_21 : decode kY_Reader_valueAmong.2.1 21 = .ok (.iload_n 2, 1) := by decide +kernel
theorem d_Reader_valueAmong_22 : decode kY_Reader_valueAmong.2.1 22 = .ok (.iadd, 1) := by decide +kernel
theorem d_Reader_valueAmong_23 : decode kY_Reader_valueAmong.2.1 23 = .ok (.if_icmp .ge 12, 3) := by decide +kernel
theorem d_Reader_valueAmong_26 : decode kY_Reader_valueAmong.2.1 26 = .ok (.aload_n 0, 1) := by decide +kernel
theorem d_Reader_valueAmong_27 : decode kY_Reader_valueAmong.2.1 27 = .ok (.getfield 241, 3) := by decide +kernel
theorem d_Reader_valueAmong_30 : decode kY_Reader_valueAmong.2.1 30 = .ok (.iload_n 1, 1) := by decide +kernel
theorem d_Reader_valueAmong_31 : decode kY_Reader_valueAmong.2.1 31 = .ok (.isub, 1) := by decide +kernel
theorem d_Reader_valueAmong_32 : decode kY_Reader_valueAmong.2.1 32 = .ok (.goto 4, 3) := by decide +kernel
def w_Reader_valueAmong : List Nat := []
theorem tc_Reader_valueAmong {g : mj_G} {l : Launch} {d : Nat} {T0 : tm_H} {M0 : mj_M} {n0 x9 : Nat} {o0 : Nat} {x1 : Int32} {x2 : Int32} (h_o0 : T0 o0 = some (0, 9, 0)) (I0 : tm_I tm_FT (tm_in w_Reader_valueAmong) x9 T0 M0 n0 T0 M0 n0) : mj_Met g l kY_Reader_valueAmong d [.ref o0, .int x1, .int x2] M0 n0 0 0 (tm_Q tm_FT (tm_in w_Reader_valueAmong) x9 T0 M0 n0 (fun r _ _ => ∃ v : Int32, r = some (.int v))) := by
  refine mj_enter (by decide) (Nat.le_of_ble_eq_true rfl) ?_
  refine mv_aload_n d_Reader_valueAmong_0 rfl rfl ?_
  obtain ⟨v2, q1⟩ := tm_atI I0 h_o0 (k := 10) rfl
  refine tr_getK q1 d_Reader_valueAmong_1 f_Reader_41_9 ?_
  refine mv_iconst (v := 1) d_Reader_valueAmong_4 (by decide) ?_
  have := mz_hi v2
  refine mv_icmp_neZ (tgt := 35) (a := v2.toInt) (b := 1) d_Reader_valueAmong_5 (by decide) rfl (by decide) (fun b3 => ?_) (fun b3 => ?_)
  · refine mv_iconst (v := (-1)) d_Reader_valueAmong_35 (by decide) ?_
    exact mv_iret d_Reader_valueAmong_36 rfl (by first | rfl | decide) ⟨_, I0, _, rfl⟩
  · refine mv_aload_n d_Reader_valueAmong_8 rfl rfl ?_
    obtain ⟨v5, q4⟩ := tm_atI I0 h_o0 (k := 13) rfl
    refine tr_getK q4 d_Reader_valueAmong_9 f_Reader_241_9 ?_
    refine mv_iload_n d_Reader_valueAmong_12 rfl rfl ?_
    have := mz_hi v5
    have := mz_hi x1
    refine mv_icmp_ltZ (tgt := 35) (a := v5.toInt) (b := x1.toInt) d_Reader_valueAmong_13 (by decide) rfl rfl (fun b6 => ?_) (fun b6 => ?_)
    · refine mv_iconst (v := (-1)) d_Reader_valueAmong_35 (by decide) ?_
      exact mv_iret d_Reader_valueAmong_36 rfl (by first | rfl | decide) ⟨_, I0, _, rfl⟩
    · refine mv_aload_n d_Reader_valueAmong_16 rfl rfl ?_
      refine tr_getK (k := 13) q4 d_Reader_valueAmong_17 f_Reader_241_9 ?_
      refine mv_iload_n d_Reader_valueAmong_20 rfl rfl ?_
      refine mv_iload_n d_Reader_valueAmong_21 rfl rfl ?_
      refine mv_iadd d_Reader_valueAmong_22 ?_
      have := mz_hi v5
      have := mz_hi (x1 + x2)
      refine mv_icmp_geZ (tgt := 35) (a := v5.toInt) (b := (x1 + x2).toInt) d_Reader_valueAmong_23 (by decide) rfl rfl (fun b7 => ?_) (fun b7 => ?_)
      · refine mv_iconst (v := (-1)) d_Reader_valueAmong_35 (by decide) ?_
        exact mv_iret d_Reader_valueAmong_36 rfl (by first | rfl | decide) ⟨_, I0, _, rfl⟩
      · refine mv_aload_n d_Reader_valueAmong_26 rfl rfl ?_
        refine tr_getK (k := 13) q4 d_Reader_valueAmong_27 f_Reader_241_9 ?_
        refine mv_iload_n d_Reader_valueAmong_30 rfl rfl ?_
        refine mv_isub d_Reader_valueAmong_31 ?_
        refine mv_goto (tgt := 36) d_Reader_valueAmong_32 (by decide) ?_
        exact mv_iret d_Reader_valueAmong_36 rfl (by first | rfl | decide) ⟨_, I0, _, rfl⟩
theorem lV_Reader_85 : mj_lV "TrustDesk$Reader" 85 kY_Reader_valueAmong 2 := ⟨⟨(mj_in1 (List.mem_of_getElem? (i := 455) (by decide +kernel)) rfl), (mj_in1 (List.mem_of_getElem? (i := 3) (by decide +kernel)) rfl), (mj_in1 (List.mem_of_getElem? (i := 458) (by decide +kernel)) rfl), by decide, rfl, by decide⟩, (mj_in1 (List.mem_of_getElem? (i := 457) (by decide +kernel)) rfl), (mj_in (List.mem_append_left _ (List.mem_of_getElem? (i := 12) (by decide +kernel))) rfl)⟩
theorem d_Reader_rule_8 : decode kY_Reader_rule.2.1 8 = .ok (.istore_n 2, 1) := by decide +kernel
theorem d_Reader_rule_9 : decode kY_Reader_rule.2.1 9 = .ok (.aload_n 0, 1) := by decide +kernel
theorem d_Reader_rule_10 : decode kY_Reader_rule.2.1 10 = .ok (.bipush 23, 2) := by decide +kernel
theorem d_Reader_rule_12 : decode kY_Reader_rule.2.1 12 = .ok (.invokevirtual 52, 3) := by decide +kernel
abbrev kY_Reader_isWord : mj_Y := (⟨"TrustDesk$Reader", "isWord", "(I)Z"⟩, prog_10_method_29_code, 2, (Option.some Jvm.ClassFile.FieldType.boolean))
theorem d_Reader_isWord_0 : decode kY_Reader_isWord.2.1 0 = .ok (.aload_n 0, 1) := by decide +kernel
theorem d_Reader_isWord_1 : decode kY_Reader_isWord.2.1 1 = .ok (.getfield 41, 3) := by decide +kernel
theorem d_Reader_isWord_4 : decode kY_Reader_isWord.2.1 4 = .ok (.iconst 1, 1) := by decide +kernel
theorem d_Reader_isWord_5 : decode kY_Reader_isWord.2.1 5 = .ok (.if_icmp .ne 15, 3) := by decide +kernel
theorem d_Reader_isWord_20 : decode kY_Reader_isWord.2.1 20 = .ok (.iconst 0, 1) := by decide +kernel
theorem d_Reader_isWord_21 : decode kY_Reader_isWord.2.1 21 = .ok (.ireturn, 1) := by decide +kernel
theorem d_Reader_isWord_8 : decode kY_Reader_isWord.2.1 8 = .ok (.aload_n 0, 1) := by decide +kernel
theorem d_Reader_isWord_9 : decode kY_Reader_isWord.2.1 9 = .ok (.getfield 241, 3) := by decide +kernel
theorem d_Reader_isWord_12 : decode kY_Reader_isWord.2.1 12 = .ok (.iload_n 1, 1) := by decide +kernel
theorem d_Reader_isWord_13 : decode kY_Reader_isWord.2.1 13 = .ok (.if_icmp .ne 7, 3) := by decide +kernel
theorem d_Reader_isWord_16 : decode kY_Reader_isWord.2.1 16 = .ok (.iconst 1, 1) := by decide +kernel
theorem d_Reader_isWord_17 : decode kY_Reader_isWord.2.1 17 = .ok (.goto 4, 3) := by decide +kernel
def w_Reader_isWord : List Nat := []
theorem tc_Reader_isWord {g : mj_G} {l : Launch} {d : Nat} {T0 : tm_H} {M0 : mj_M} {n0 x9 : Nat} {o0 : Nat} {x1 : Int32} (h_o0 : T0 o0 = some (0, 9, 0)) (I0 : tm_I tm_FT (tm_in w_Reader_isWord) x9 T0 M0 n0 T0 M0 n0) : mj_Met g l kY_Reader_isWord d [.ref o0, .int x1] M0 n0 0 0 (tm_Q tm_FT (tm_in w_Reader_isWord) x9 T0 M0 n0 (fun r _ _ => ∃ v : Int32, r = some (.int v) ∧ 0 ≤ v.toInt ∧ v.toInt ≤ 1)) := by
  refine mj_enter (by decide) (Nat.le_of_ble_eq_true rfl) ?_
  refine mv_aload_n d_Reader_isWord_0 rfl rfl ?_
  obtain ⟨v2, q1⟩ := tm_atI I0 h_o0 (k := 10) rfl
  refine tr_getK q1 d_Reader_isWord_1 f_Reader_41_9 ?_
  refine mv_iconst (v := 1) d_Reader_isWord_4 (by decide) ?_
  have := mz_hi v2
  refine mv_icmp_neZ (tgt := 20) (a := v2.toInt) (b := 1) d_Reader_isWord_5 (by decide) rfl (by decide) (fun b3 => ?_) (fun b3 => ?_)
  · refine mv_iconst (v := 0) d_Reader_isWord_20 (by decide) ?_
    exact mv_iret d_Reader_isWord_21 rfl (by decide) ⟨_, I0, _, rfl, by decide, by decide⟩
  · refine mv_aload_n d_Reader_isWord_8 rfl rfl ?_
    obtain ⟨v5, q4⟩ := tm_atI I0 h_o0 (k := 13) rfl
    refine tr_getK q4 d_Reader_isWord_9 f_Reader_241_9 ?_
    refine mv_iload_n d_Reader_isWord_12 rfl rfl ?_
    have := mz_hi v5
    have := mz_hi x1
    refine mv_icmp_neZ (tgt := 20) (a := v5.toInt) (b := x1.toInt) d_Reader_isWord_13 (by decide) rfl rfl (fun b6 => ?_) (fun b6 => ?_)
    · refine mv_iconst (v := 0) d_Reader_isWord_20 (by decide) ?_
      exact mv_iret d_Reader_isWord_21 rfl (by decide) ⟨_, I0, _, rfl, by decide, by decide⟩
    · refine mv_iconst (v := 1) d_Reader_isWord_16 (by decide) ?_
      refine mv_goto (tgt := 21) d_Reader_isWord_17 (by decide) ?_
      exact mv_iret d_Reader_isWord_21 rfl (by decide) ⟨_, I0, _, rfl, by decide, by decide⟩
theorem lV_Reader_52 : mj_lV "TrustDesk$Reader" 52 kY_Reader_isWord 1 := ⟨⟨(mj_in1 (List.mem_of_getElem? (i := 459) (by decide +kernel)) rfl), (mj_in1 (List.mem_of_getElem? (i := 3) (by decide +kernel)) rfl), (mj_in1 (List.mem_of_getElem? (i := 462) (by decide +kernel)) rfl), by decide, rfl, by decide⟩, (mj_in1 (List.mem_of_getElem? (i := 461) (by decide +kernel)) rfl), (mj_in (List.mem_append_left _ (List.mem_of_getElem? (i := 13) (by decide +kernel))) rfl)⟩
theorem d_Reader_rule_15 : decode kY_Reader_rule.2.1 15 = .ok (.istore_n 3, 1) := by decide +kernel
theorem d_Reader_rule_16 : decode kY_Reader_rule.2.1 16 = .ok (.iload_n 2, 1) := by decide +kernel
theorem d_Reader_rule_17 : decode kY_Reader_rule.2.1 17 = .ok (.iconst (-1), 1) := by decide +kernel
theorem d_Reader_rule_18 : decode kY_Reader_rule.2.1 18 = .ok (.if_icmp .ne 13, 3) := by decide +kernel
theorem d_Reader_rule_31 : decode kY_Reader_rule.2.1 31 = .ok (.aload_n 1, 1) := by decide +kernel
theorem d_Reader_rule_32 : decode kY_Reader_rule.2.1 32 = .ok (.getfield 89, 3) := by decide +kernel
theorem f_Reader_89_1 : mj_fl "TrustDesk$Reader" 89 1 1 := ⟨kR_Act, kF_Act, 5, "TrustDesk$Act", rfl, kg_1, by decide, (mj_in1 (List.mem_of_getElem? (i := 249) (by decide +kernel)) rfl), Or.inl rfl⟩
theorem d_Reader_rule_35 : decode kY_Reader_rule.2.1 35 = .ok (.bipush 20, 2) := by decide +kernel
theorem d_Reader_rule_37 : decode kY_Reader_rule.2.1 37 = .ok (.if_icmp .lt 9, 3) := by decide +kernel
theorem d_Reader_rule_46 : decode kY_Reader_rule.2.1 46 = .ok (.aload_n 1, 1) := by decide +kernel
theorem d_Reader_rule_47 : decode kY_Reader_rule.2.1 47 = .ok (.dup, 1) := by decide +kernel
theorem d_Reader_rule_48 : decode kY_Reader_rule.2.1 48 = .ok (.getfield 89, 3) := by decide +kernel
theorem d_Reader_rule_51 : decode kY_Reader_rule.2.1 51 = .ok (.iconst 1, 1) := by decide +kernel
theorem d_Reader_rule_52 : decode kY_Reader_rule.2.1 52 = .ok (.iadd, 1) := by decide +kernel
theorem d_Reader_rule_53 : decode kY_Reader_rule.2.1 53 = .ok (.putfield 89, 3) := by decide +kernel
theorem p_Reader_89_1 : mj_fp "TrustDesk$Reader" 89 1 1 (kt_Act 1) false := ⟨kR_Act, kF_Act, 5, "TrustDesk$Act", kt_Act, rfl, kg_1, by decide, (mj_in1 (List.mem_of_getElem? (i := 249) (by decide +kernel)) rfl), Or.inl rfl, kto_Act, kn_Act, rfl, rfl, fun h => by cases h⟩
theorem d_Reader_rule_56 : decode kY_Reader_rule.2.1 56 = .ok (.aload_n 0, 1) := by decide +kernel
theorem d_Reader_rule_57 : decode kY_Reader_rule.2.1 57 = .ok (.invokevirtual 82, 3) := by decide +kernel
theorem d_Reader_rule_60 : decode kY_Reader_rule.2.1 60 = .ok (.iload_n 3, 1) := by decide +kernel
theorem d_Reader_rule_61 : decode kY_Reader_rule.2.1 61 = .ok (.ifCond .eq 14, 3) := by decide +kernel
theorem d_Reader_rule_75 : decode kY_Reader_rule.2.1 75 = .ok (.aload_n 0, 1) := by decide +kernel
theorem d_Reader_rule_76 : decode kY_Reader_rule.2.1 76 = .ok (.aload_n 1, 1) := by decide +kernel
theorem d_Reader_rule_77 : decode kY_Reader_rule.2.1 77 = .ok (.iload_n 2, 1) := by decide +kernel
theorem d_Reader_rule_78 : decode kY_Reader_rule.2.1 78 = .ok (.invokevirtual 97, 3) := by decide +kernel
abbrev kY_Reader_ruleNumber : mj_Y := (⟨"TrustDesk$Reader", "ruleNumber", "(LTrustDesk$Act;I)Z"⟩, prog_10_method_8_code, 3, (Option.some Jvm.ClassFile.FieldType.boolean))
theorem d_Reader_ruleNumber_0 : decode kY_Reader_ruleNumber.2.1 0 = .ok (.iload_n 2, 1) := by decide +kernel
theorem d_Reader_ruleNumber_1 : decode kY_Reader_ruleNumber.2.1 1 = .ok (.ifCond .lt 36, 3) := by decide +kernel
theorem d_Reader_ruleNumber_37 : decode kY_Reader_ruleNumber.2.1 37 = .ok (.iconst 0, 1) := by decide +kernel
theorem d_Reader_ruleNumber_38 : decode kY_Reader_ruleNumber.2.1 38 = .ok (.ireturn, 1) := by decide +kernel
theorem d_Reader_ruleNumber_4 : decode kY_Reader_ruleNumber.2.1 4 = .ok (.iload_n 2, 1) := by decide +kernel
theorem d_Reader_ruleNumber_5 : decode kY_Reader_ruleNumber.2.1 5 = .ok (.getstatic 101, 3) := by decide +kernel
theorem d_Reader_ruleNumber_8 : decode kY_Reader_ruleNumber.2.1 8 = .ok (.arraylength, 1) := by decide +kernel
theorem d_Reader_ruleNumber_9 : decode kY_Reader_ruleNumber.2.1 9 = .ok (.if_icmp .ge 28, 3) := by decide +kernel
theorem d_Reader_ruleNumber_12 : decode kY_Reader_ruleNumber.2.1 12 = .ok (.iload_n 2, 1) := by decide +kernel
theorem d_Reader_ruleNumber_13 : decode kY_Reader_ruleNumber.2.1 13 = .ok (.getstatic 104, 3) := by decide +kernel
theorem d_Reader_ruleNumber_16 : decode kY_Reader_ruleNumber.2.1 16 = .ok (.arraylength, 1) := by decide +kernel
theorem d_Reader_ruleNumber_17 : decode kY_Reader_ruleNumber.2.1 17 = .ok (.if_icmp .ge 20, 3) := by decide +kernel
theorem d_Reader_ruleNumber_20 : decode kY_Reader_ruleNumber.2.1 20 = .ok (.aload_n 0, 1) := by decide +kernel
theorem d_Reader_ruleNumber_21 : decode kY_Reader_ruleNumber.2.1 21 = .ok (.getstatic 101, 3) := by decide +kernel
theorem d_Reader_ruleNumber_24 : decode kY_Reader_ruleNumber.2.1 24 = .ok (.iload_n 2, 1) := by decide +kernel
theorem d_Reader_ruleNumber_25 : decode kY_Reader_ruleNumber.2.1 25 = .ok (.iaload, 1) := by decide +kernel
theorem d_Reader_ruleNumber_26 : decode kY_Reader_ruleNumber.2.1 26 = .ok (.getstatic 104, 3) := by decide +kernel
theorem d_Reader_ruleNumber_29 : decode kY_Reader_ruleNumber.2.1 29 = .ok (.iload_n 2, 1) := by decide +kernel
theorem d_Reader_ruleNumber_30 : decode kY_Reader_ruleNumber.2.1 30 = .ok (.iaload, 1) := by decide +kernel
theorem d_Reader_ruleNumber_31 : decode kY_Reader_ruleNumber.2.1 31 = .ok (.invokevirtual 107, 3) := by decide +kernel
abbrev kY_Reader_numeral : mj_Y := (⟨"TrustDesk$Reader", "numeral", "(II)Z"⟩, prog_10_method_26_code, 3, (Option.some Jvm.ClassFile.FieldType.boolean))
theorem d_Reader_numeral_0 : decode kY_Reader_numeral.2.1 0 = .ok (.aload_n 0, 1) := by decide +kernel
theorem d_Reader_numeral_1 : decode kY_Reader_numeral.2.1 1 = .ok (.getfield 41, 3) := by decide +kernel
theorem d_Reader_numeral_4 : decode kY_Reader_numeral.2.1 4 = .ok (.iconst 2, 1) := by decide +kernel
theorem d_Reader_numeral_5 : decode kY_Reader_numeral.2.1 5 = .ok (.if_icmp .ne 11, 3) := by decide +kernel
theorem d_Reader_numeral_16 : decode kY_Reader_numeral.2.1 16 = .ok (.aload_n 0, 1) := by decide +kernel
theorem d_Reader_numeral_17 : decode kY_Reader_numeral.2.1 17 = .ok (.iconst 1, 1) := by decide +kernel
theorem d_Reader_numeral_18 : decode kY_Reader_numeral.2.1 18 = .ok (.invokevirtual 56, 3) := by decide +kernel
abbrev kY_Reader_refuse : mj_Y := (⟨"TrustDesk$Reader", "refuse", "(I)Z"⟩, prog_10_method_25_code, 2, (Option.some Jvm.ClassFile.FieldType.boolean))
theorem d_Reader_refuse_0 : decode kY_Reader_refuse.2.1 0 = .ok (.aload_n 0, 1) := by decide +kernel
theorem d_Reader_refuse_1 : decode kY_Reader_refuse.2.1 1 = .ok (.iload_n 1, 1) := by decide +kernel
theorem d_Reader_refuse_2 : decode kY_Reader_refuse.2.1 2 = .ok (.putfield 70, 3) := by decide +kernel
theorem d_Reader_refuse_5 : decode kY_Reader_refuse.2.1 5 = .ok (.aload_n 0, 1) := by decide +kernel
theorem d_Reader_refuse_6 : decode kY_Reader_refuse.2.1 6 = .ok (.aload_n 0, 1) := by decide +kernel
theorem d_Reader_refuse_7 : decode kY_Reader_refuse.2.1 7 = .ok (.getfield 175, 3) := by decide +kernel
theorem f_Reader_175_9 : mj_fl "TrustDesk$Reader" 175 9 11 := ⟨kR_Reader, kF_Reader, 19, "TrustDesk$Reader", rfl, kg_9, by decide, (mj_in1 (List.mem_of_getElem? (i := 83) (by decide +kernel)) rfl), Or.inl rfl⟩
theorem d_Reader_refuse_10 : decode kY_Reader_refuse.2.1 10 = .ok (.putfield 11, 3) := by decide +kernel
theorem d_Reader_refuse_13 : decode kY_Reader_refuse.2.1 13 = .ok (.iconst 0, 1) := by decide +kernel
theorem d_Reader_refuse_14 : decode kY_Reader_refuse.2.1 14 = .ok (.ireturn, 1) := by decide +kernel
def w_Reader_refuse : List Nat := [901, 902]
theorem tc_Reader_refuse {g : mj_G} {l : Launch} {d : Nat} {T0 : tm_H} {M0 : mj_M} {n0 x9 : Nat} {o0 : Nat} {x1 : Int32} (h_o0 : T0 o0 = some (0, 9, 0)) (I0 : tm_I tm_FT (tm_in w_Reader_refuse) x9 T0 M0 n0 T0 M0 n0) : mj_Met g l kY_Reader_refuse d [.ref o0, .int x1] M0 n0 0 0 (tm_Q tm_FT (tm_in w_Reader_refuse) x9 T0 M0 n0 (fun r _ _ => r = some (.int 0))) := by
  refine mj_enter (by decide) (Nat.le_of_ble_eq_true rfl) ?_
  refine mv_aload_n d_Reader_refuse_0 rfl rfl ?_
  refine mv_iload_n d_Reader_refuse_1 rfl rfl ?_
  refine tr_putK tm_okF I0 h_o0 (k := 1) rfl ⟨_, rfl⟩ (Or.inl (by decide)) d_Reader_refuse_2 p_Reader_70_9 rfl rfl (fun M1 I2 q3 K4 => ?_)
  refine mv_aload_n d_Reader_refuse_5 rfl rfl ?_
  refine mv_aload_n d_Reader_refuse_6 rfl rfl ?_
  obtain ⟨v6, q5⟩ := tm_atI I2 h_o0 (k := 11) rfl
  refine tr_getK q5 d_Reader_refuse_7 f_Reader_175_9 ?_
  refine tr_putK tm_okF I2 h_o0 (k := 2) rfl ⟨_, rfl⟩ (Or.inl (by decide)) d_Reader_refuse_10 p_Reader_11_9 rfl rfl (fun M7 I8 q9 K10 => ?_)
  refine mv_iconst (v := 0) d_Reader_refuse_13 (by decide) ?_
  exact mv_iret d_Reader_refuse_14 rfl (by first | rfl | decide) ⟨_, I8, rfl⟩
theorem lV_Reader_56 : mj_lV "TrustDesk$Reader" 56 kY_Reader_refuse 1 := ⟨⟨(mj_in1 (List.mem_of_getElem? (i := 463) (by decide +kernel)) rfl), (mj_in1 (List.mem_of_getElem? (i := 3) (by decide +kernel)) rfl), (mj_in1 (List.mem_of_getElem? (i := 466) (by decide +kernel)) rfl), by decide, rfl, by decide⟩, (mj_in1 (List.mem_of_getElem? (i := 465) (by decide +kernel)) rfl), (mj_in (List.mem_append_left _ (List.mem_of_getElem? (i := 14) (by decide +kernel))) rfl)⟩
theorem d_Reader_numeral_21 : decode kY_Reader_numeral.2.1 21 = .ok (.ireturn, 1) := by decide +kernel
theorem d_Reader_numeral_8 : decode kY_Reader_numeral.2.1 8 = .ok (.aload_n 0, 1) := by decide +kernel
theorem d_Reader_numeral_9 : decode kY_Reader_numeral.2.1 9 = .ok (.getfield 241, 3) := by decide +kernel
theorem d_Reader_numeral_12 : decode kY_Reader_numeral.2.1 12 = .ok (.iconst (-1), 1) := by decide +kernel
theorem d_Reader_numeral_13 : decode kY_Reader_numeral.2.1 13 = .ok (.if_icmp .ne 9, 3) := by decide +kernel
theorem d_Reader_numeral_22 : decode kY_Reader_numeral.2.1 22 = .ok (.aload_n 0, 1) := by decide +kernel
theorem d_Reader_numeral_23 : decode kY_Reader_numeral.2.1 23 = .ok (.getfield 241, 3) := by decide +kernel
theorem d_Reader_numeral_26 : decode kY_Reader_numeral.2.1 26 = .ok (.iload_n 1, 1) := by decide +kernel
theorem d_Reader_numeral_27 : decode kY_Reader_numeral.2.1 27 = .ok (.if_icmp .lt 11, 3) := by decide +kernel
theorem d_Reader_numeral_38 : decode kY_Reader_numeral.2.1 38 = .ok (.aload_n 0, 1) := by decide +kernel
theorem d_Reader_numeral_39 : decode kY_Reader_numeral.2.1 39 = .ok (.iconst 2, 1) := by decide +kernel
theorem d_Reader_numeral_40 : decode kY_Reader_numeral.2.1 40 = .ok (.invokevirtual 56, 3) := by decide +kernel
theorem d_Reader_numeral_43 : decode kY_Reader_numeral.2.1 43 = .ok (.ireturn, 1) := by decide +kernel
theorem d_Reader_numeral_30 : decode kY_Reader_numeral.2.1 30 = .ok (.aload_n 0, 1) := by decide +kernel
theorem d_Reader_numeral_31 : decode kY_Reader_numeral.2.1 31 = .ok (.getfield 241, 3) := by decide +kernel
theorem d_Reader_numeral_34 : decode kY_Reader_numeral.2.1 34 = .ok (.iload_n 2, 1) := by decide +kernel
theorem d_Reader_numeral_35 : decode kY_Reader_numeral.2.1 35 = .ok (.if_icmp .le 9, 3) := by decide +kernel
theorem d_Reader_numeral_44 : decode kY_Reader_numeral.2.1 44 = .ok (.aload_n 0, 1) := by decide +kernel
theorem d_Reader_numeral_45 : decode kY_Reader_numeral.2.1 45 = .ok (.aload_n 0, 1) := by decide +kernel
theorem d_Reader_numeral_46 : decode kY_Reader_numeral.2.1 46 = .ok (.getfield 241, 3) := by decide +kernel
theorem d_Reader_numeral_49 : decode kY_Reader_numeral.2.1 49 = .ok (.putfield 111, 3) := by decide +kernel
theorem p_Reader_111_9 : mj_fp "TrustDesk$Reader" 111 9 14 (kt_Reader 14) false := ⟨kR_Reader, kF_Reader, 19, "TrustDesk$Reader", kt_Reader, rfl, kg_9, by decide, (mj_in1 (List.mem_of_getElem? (i := 86) (by decide +kernel)) rfl), Or.inl rfl, kto_Reader, kn_Reader, rfl, rfl, fun h => by cases h⟩
theorem d_Reader_numeral_52 : decode kY_Reader_numeral.2.1 52 = .ok (.aload_n 0, 1) := by decide +kernel
theorem d_Reader_numeral_53 : decode kY_Reader_numeral.2.1 53 = .ok (.invokevirtual 82, 3) := by decide +kernel
theorem d_Reader_numeral_56 : decode kY_Reader_numeral.2.1 56 = .ok (.iconst 1, 1) := by decide +kernel
theorem d_Reader_numeral_57 : decode kY_Reader_numeral.2.1 57 = .ok (.ireturn, 1) := by decide +kernel
def w_Reader_numeral : List Nat := [901, 902, 909, 910, 911, 912, 913, 914]
theorem tc_Reader_numeral {g : mj_G} {l : Launch} {d : Nat} {T0 : tm_H} {M0 : mj_M} {n0 x9 : Nat} {o0 : Nat} {x1 : Int32} {x2 : Int32} (h_o0 : T0 o0 = some (0, 9, 0)) (I0 : tm_I tm_FT (tm_in w_Reader_numeral) x9 T0 M0 n0 T0 M0 n0) : mj_Met g l kY_Reader_numeral (d + 1) [.ref o0, .int x1, .int x2] M0 n0 0 0 (tm_Q tm_FT (tm_in w_Reader_numeral) x9 T0 M0 n0 (fun r _ _ => ∃ v : Int32, r = some (.int v) ∧ 0 ≤ v.toInt ∧ v.toInt ≤ 1)) := by
  refine mj_enter (by decide) (Nat.le_of_ble_eq_true rfl) ?_
  refine mv_aload_n d_Reader_numeral_0 rfl rfl ?_
  obtain ⟨v2, q1⟩ := tm_atI I0 h_o0 (k := 10) rfl
  refine tr_getK q1 d_Reader_numeral_1 f_Reader_41_9 ?_
  refine mv_iconst (v := 2) d_Reader_numeral_4 (by decide) ?_
  have := mz_hi v2
  refine mv_icmp_neZ (tgt := 16) (a := v2.toInt) (b := 2) d_Reader_numeral_5 (by decide) rfl (by decide) (fun b3 => ?_) (fun b3 => ?_)
  · refine mv_aload_n d_Reader_numeral_16 rfl rfl ?_
    refine mv_iconst (v := 1) d_Reader_numeral_17 (by decide) ?_
    obtain ⟨_, b10, -⟩ := I0.1 _ _ h_o0
    refine mv_callV (kc' := 0) (ks' := 0) (As := [.int 1]) (st9 := [.int 1, .ref o0]) d_Reader_numeral_18 lV_Reader_56 b10 rfl (tc_Reader_refuse (d := d) (x9 := x9) (o0 := o0) (x1 := 1) h_o0 I0.start) rfl (Nat.le_of_ble_eq_true rfl) (Nat.le_of_ble_eq_true rfl) (Nat.le_of_ble_eq_true rfl) (hst := rfl) (fun b4r M5 n6 b4 => ?_)
    obtain ⟨T7, J8, rfl⟩ := b4
    have I9 := I0.call J8 (tm_sub (by decide)) (Or.inl rfl)
    have t11 := J8.up h_o0
    have q12 := J8.keep h_o0 (by decide) q1
    exact mv_iret d_Reader_numeral_21 rfl (by decide) ⟨_, I9, _, rfl, by decide, by decide⟩
  · refine mv_aload_n d_Reader_numeral_8 rfl rfl ?_
    obtain ⟨v14, q13⟩ := tm_atI I0 h_o0 (k := 13) rfl
    refine tr_getK q13 d_Reader_numeral_9 f_Reader_241_9 ?_
    refine mv_iconst (v := (-1)) d_Reader_numeral_12 (by decide) ?_
    have := mz_hi v14
    refine mv_icmp_neZ (tgt := 22) (a := v14.toInt) (b := (-1)) d_Reader_numeral_13 (by decide) rfl (by decide) (fun b15 => ?_) (fun b15 => ?_)
    · refine mv_aload_n d_Reader_numeral_22 rfl rfl ?_
      refine tr_getK (k := 13) q13 d_Reader_numeral_23 f_Reader_241_9 ?_
      refine mv_iload_n d_Reader_numeral_26 rfl rfl ?_
      have := mz_hi v14
      have := mz_hi x1
      refine mv_icmp_ltZ (tgt := 38) (a := v14.toInt) (b := x1.toInt) d_Reader_numeral_27 (by decide) rfl rfl (fun b16 => ?_) (fun b16 => ?_)
      · refine mv_aload_n d_Reader_numeral_38 rfl rfl ?_
        refine mv_iconst (v := 2) d_Reader_numeral_39 (by decide) ?_
        obtain ⟨_, b23, -⟩ := I0.1 _ _ h_o0
        refine mv_callV (kc' := 0) (ks' := 0) (As := [.int 2]) (st9 := [.int 2, .ref o0]) d_Reader_numeral_40 lV_Reader_56 b23 rfl (tc_Reader_refuse (d := d) (x9 := x9) (o0 := o0) (x1 := 2) h_o0 I0.start) rfl (Nat.le_of_ble_eq_true rfl) (Nat.le_of_ble_eq_true rfl) (Nat.le_of_ble_eq_true rfl) (hst := rfl) (fun b17r M18 n19 b17 => ?_)
        obtain ⟨T20, J21, rfl⟩ := b17
        have I22 := I0.call J21 (tm_sub (by decide)) (Or.inl rfl)
        have t24 := J21.up h_o0
        have q25 := J21.keep h_o0 (by decide) q1
        have q26 := J21.keep h_o0 (by decide) q13
        exact mv_iret d_Reader_numeral_43 rfl (by decide) ⟨_, I22, _, rfl, by decide, by decide⟩
      · refine mv_aload_n d_Reader_numeral_30 rfl rfl ?_
        refine tr_getK (k := 13) q13 d_Reader_numeral_31 f_Reader_241_9 ?_
        refine mv_iload_n d_Reader_numeral_34 rfl rfl ?_
        have := mz_hi v14
        have := mz_hi x2
        refine mv_icmp_leZ (tgt := 44) (a := v14.toInt) (b := x2.toInt) d_Reader_numeral_35 (by decide) rfl rfl (fun b27 => ?_) (fun b27 => ?_)
        · refine mv_aload_n d_Reader_numeral_44 rfl rfl ?_
          refine mv_aload_n d_Reader_numeral_45 rfl rfl ?_
          refine tr_getK (k := 13) q13 d_Reader_numeral_46 f_Reader_241_9 ?_
          refine tr_putK tm_okF I0 h_o0 (k := 14) rfl ⟨_, rfl⟩ (Or.inl (by decide)) d_Reader_numeral_49 p_Reader_111_9 rfl rfl (fun M28 I29 q30 K31 => ?_)
          refine mv_aload_n d_Reader_numeral_52 rfl rfl ?_
          obtain ⟨_, b38, -⟩ := I29.1 _ _ h_o0
          refine mv_callV (kc' := 0) (ks' := 0) (As := []) (st9 := [.ref o0]) d_Reader_numeral_53 lV_Reader_82 b38 rfl (tc_Reader_advance (d := d) (x9 := x9) (o0 := o0) h_o0 I29.start) rfl (Nat.le_of_ble_eq_true rfl) (Nat.le_of_ble_eq_true rfl) (Nat.le_of_ble_eq_true rfl) (hst := rfl) (fun b32r M33 n34 b32 => ?_)
          obtain ⟨T35, J36, rfl⟩ := b32
          have I37 := I29.call J36 (tm_sub (by decide)) (Or.inl rfl)
          have t39 := J36.up h_o0
          have q40 := J36.keep h_o0 (by decide) q30
          refine mv_iconst (v := 1) d_Reader_numeral_56 (by decide) ?_
          exact mv_iret d_Reader_numeral_57 rfl (by decide) ⟨_, I37, _, rfl, by decide, by decide⟩
        · refine mv_aload_n d_Reader_numeral_38 rfl rfl ?_
          refine mv_iconst (v := 2) d_Reader_numeral_39 (by decide) ?_
          obtain ⟨_, b47, -⟩ := I0.1 _ _ h_o0
          refine mv_callV (kc' := 0) (ks' := 0) (As := [.int 2]) (st9 := [.int 2, .ref o0]) d_Reader_numeral_40 lV_Reader_56 b47 rfl (tc_Reader_refuse (d := d) (x9 := x9) (o0 := o0) (x1 := 2) h_o0 I0.start) rfl (Nat.le_of_ble_eq_true rfl) (Nat.le_of_ble_eq_true rfl) (Nat.le_of_ble_eq_true rfl) (hst := rfl) (fun b41r M42 n43 b41 => ?_)
          obtain ⟨T44, J45, rfl⟩ := b41
          have I46 := I0.call J45 (tm_sub (by decide)) (Or.inl rfl)
          have t48 := J45.up h_o0
          have q49 := J45.keep h_o0 (by decide) q1
          have q50 := J45.keep h_o0 (by decide) q13
          exact mv_iret d_Reader_numeral_43 rfl (by decide) ⟨_, I46, _, rfl, by decide, by decide⟩
    · refine mv_aload_n d_Reader_numeral_16 rfl rfl ?_
      refine mv_iconst (v := 1) d_Reader_numeral_17 (by decide) ?_
      obtain ⟨_, b57, -⟩ := I0.1 _ _ h_o0
      refine mv_callV (kc' := 0) (ks' := 0) (As := [.int 1]) (st9 := [.int 1, .ref o0]) d_Reader_numeral_18 lV_Reader_56 b57 rfl (tc_Reader_refuse (d := d) (x9 := x9) (o0 := o0) (x1 := 1) h_o0 I0.start) rfl (Nat.le_of_ble_eq_true rfl) (Nat.le_of_ble_eq_true rfl) (Nat.le_of_ble_eq_true rfl) (hst := rfl) (fun b51r M52 n53 b51 => ?_)
      obtain ⟨T54, J55, rfl⟩ := b51
      have I56 := I0.call J55 (tm_sub (by decide)) (Or.inl rfl)
      have t58 := J55.up h_o0
      have q59 := J55.keep h_o0 (by decide) q1
      have q60 := J55.keep h_o0 (by decide) q13
      exact mv_iret d_Reader_numeral_21 rfl (by decide) ⟨_, I56, _, rfl, by decide, by decide⟩
theorem lV_Reader_107 : mj_lV "TrustDesk$Reader" 107 kY_Reader_numeral 2 := ⟨⟨(mj_in1 (List.mem_of_getElem? (i := 511) (by decide +kernel)) rfl), (mj_in1 (List.mem_of_getElem? (i := 3) (by decide +kernel)) rfl), (mj_in1 (List.mem_of_getElem? (i := 514) (by decide +kernel)) rfl), by decide, rfl, by decide⟩, (mj_in1 (List.mem_of_getElem? (i := 513) (by decide +kernel)) rfl), (mj_in (List.mem_append_left _ (List.mem_of_getElem? (i := 26) (by decide +kernel))) rfl)⟩
theorem d_Reader_ruleNumber_34 : decode kY_Reader_ruleNumber.2.1 34 = .ok (.ifCond .ne 5, 3) := by decide +kernel
theorem d_Reader_ruleNumber_39 : decode kY_Reader_ruleNumber.2.1 39 = .ok (.aload_n 1, 1) := by decide +kernel
theorem d_Reader_ruleNumber_40 : decode kY_Reader_ruleNumber.2.1 40 = .ok (.iload_n 2, 1) := by decide +kernel
theorem d_Reader_ruleNumber_41 : decode kY_Reader_ruleNumber.2.1 41 = .ok (.aload_n 0, 1) := by decide +kernel
theorem d_Reader_ruleNumber_42 : decode kY_Reader_ruleNumber.2.1 42 = .ok (.getfield 111, 3) := by decide +kernel
theorem f_Reader_111_9 : mj_fl "TrustDesk$Reader" 111 9 14 := ⟨kR_Reader, kF_Reader, 19, "TrustDesk$Reader", rfl, kg_9, by decide, (mj_in1 (List.mem_of_getElem? (i := 86) (by decide +kernel)) rfl), Or.inl rfl⟩
theorem d_Reader_ruleNumber_45 : decode kY_Reader_ruleNumber.2.1 45 = .ok (.invokevirtual 114, 3) := by decide +kernel
abbrev kY_Act_setRule : mj_Y := (⟨"TrustDesk$Act", "setRule", "(II)V"⟩, prog_2_method_3_code, 3, (Option.none : Option Jvm.ClassFile.FieldType))
theorem d_Act_setRule_0 : decode kY_Act_setRule.2.1 0 = .ok (.iload_n 1, 1) := by decide +kernel
theorem d_Act_setRule_1 : decode kY_Act_setRule.2.1 1 = .ok (.ifCond .lt 19, 3) := by decide +kernel
theorem d_Act_setRule_20 : decode kY_Act_setRule.2.1 20 = .ok (.return_, 1) := by decide +kernel
theorem d_Act_setRule_4 : decode kY_Act_setRule.2.1 4 = .ok (.iload_n 1, 1) := by decide +kernel
theorem d_Act_setRule_5 : decode kY_Act_setRule.2.1 5 = .ok (.aload_n 0, 1) := by decide +kernel
theorem d_Act_setRule_6 : decode kY_Act_setRule.2.1 6 = .ok (.getfield 27, 3) := by decide +kernel
theorem d_Act_setRule_9 : decode kY_Act_setRule.2.1 9 = .ok (.arraylength, 1) := by decide +kernel
theorem d_Act_setRule_10 : decode kY_Act_setRule.2.1 10 = .ok (.if_icmp .ge 10, 3) := by decide +kernel
theorem d_Act_setRule_13 : decode kY_Act_setRule.2.1 13 = .ok (.aload_n 0, 1) := by decide +kernel
theorem d_Act_setRule_14 : decode kY_Act_setRule.2.1 14 = .ok (.getfield 27, 3) := by decide +kernel
theorem d_Act_setRule_17 : decode kY_Act_setRule.2.1 17 = .ok (.iload_n 1, 1) := by decide +kernel
theorem d_Act_setRule_18 : decode kY_Act_setRule.2.1 18 = .ok (.iload_n 2, 1) := by decide +kernel
theorem d_Act_setRule_19 : decode kY_Act_setRule.2.1 19 = .ok (.iastore, 1) := by decide +kernel
def w_Act_setRule : List Nat := [153]
theorem tc_Act_setRule {g : mj_G} {l : Launch} {d : Nat} {T0 : tm_H} {M0 : mj_M} {n0 x9 : Nat} {o0 : Nat} {x1 : Int32} {x2 : Int32} (h_o0 : T0 o0 = some (0, 1, 0)) (I0 : tm_I tm_FT (tm_in w_Act_setRule) x9 T0 M0 n0 T0 M0 n0) : mj_Met g l kY_Act_setRule d [.ref o0, .int x1, .int x2] M0 n0 0 0 (tm_Q tm_FT (tm_in w_Act_setRule) x9 T0 M0 n0 (fun r _ _ => r = none)) := by
  refine mj_enter (by decide) (Nat.le_of_ble_eq_true rfl) ?_
  refine mv_iload_n d_Act_setRule_0 rfl rfl ?_
  have := mz_hi x1
  refine mv_if_ltZ (tgt := 20) (a := x1.toInt) d_Act_setRule_1 (by decide) rfl (fun b1 => ?_) (fun b1 => ?_)
  · exact mv_vret d_Act_setRule_20 rfl ⟨_, I0, rfl⟩
  · refine mv_iload_n d_Act_setRule_4 rfl rfl ?_
    refine mv_aload_n d_Act_setRule_5 rfl rfl ?_
    obtain ⟨a3, q2, t_a3⟩ := tm_atR I0 h_o0 (k := 3) rfl
    refine tr_getK q2 d_Act_setRule_6 f_Act_27_1 ?_
    refine tr_alen (v := 6) I0 t_a3 (by decide) (by decide) d_Act_setRule_9 ?_
    have := mz_hi x1
    refine mv_icmp_geZ (tgt := 20) (a := x1.toInt) (b := 6) d_Act_setRule_10 (by decide) rfl (by decide) (fun b4 => ?_) (fun b4 => ?_)
    · exact mv_vret d_Act_setRule_20 rfl ⟨_, I0, rfl⟩
    · refine mv_aload_n d_Act_setRule_13 rfl rfl ?_
      refine tr_getK (k := 3) q2 d_Act_setRule_14 f_Act_27_1 ?_
      refine mv_iload_n d_Act_setRule_17 rfl rfl ?_
      refine mv_iload_n d_Act_setRule_18 rfl rfl ?_
      refine tr_iastK tm_okF I0 t_a3 (by decide) (Or.inl (by decide)) d_Act_setRule_19 (vp_in_iff.mpr (by omega)) (fun M5 I6 K7 => ?_)
      exact mv_vret d_Act_setRule_20 rfl ⟨_, I6, rfl⟩
theorem lV_Reader_114 : mj_lV "TrustDesk$Reader" 114 kY_Act_setRule 2 := ⟨⟨(mj_in1 (List.mem_of_getElem? (i := 621) (by decide +kernel)) rfl), (mj_in1 (List.mem_of_getElem? (i := 6) (by decide +kernel)) rfl), (mj_in1 (List.mem_of_getElem? (i := 624) (by decide +kernel)) rfl), by decide, rfl, by decide⟩, (mj_in1 (List.mem_of_getElem? (i := 622) (by decide +kernel)) rfl), (mj_in1 (List.mem_of_getElem? (i := 623) (by decide +kernel)) rfl)⟩
theorem d_Reader_ruleNumber_48 : decode kY_Reader_ruleNumber.2.1 48 = .ok (.iconst 1, 1) := by decide +kernel
theorem d_Reader_ruleNumber_49 : decode kY_Reader_ruleNumber.2.1 49 = .ok (.ireturn, 1) := by decide +kernel
def w_Reader_ruleNumber : List Nat := [153, 901, 902, 909, 910, 911, 912, 913, 914]
theorem tc_Reader_ruleNumber {g : mj_G} {l : Launch} {d : Nat} {T0 : tm_H} {M0 : mj_M} {n0 x9 : Nat} {o0 : Nat} {o1 : Nat} {x2 : Int32} (h_o0 : T0 o0 = some (0, 9, 0)) (h_o1 : T0 o1 = some (0, 1, 0)) (I0 : tm_I tm_FT (tm_in w_Reader_ruleNumber) x9 T0 M0 n0 T0 M0 n0) : mj_Met g l kY_Reader_ruleNumber (d + 2) [.ref o0, .ref o1, .int x2] M0 n0 0 0 (tm_Q tm_FT (tm_in w_Reader_ruleNumber) x9 T0 M0 n0 (fun r _ _ => ∃ v : Int32, r = some (.int v) ∧ 0 ≤ v.toInt ∧ v.toInt ≤ 1)) := by
  refine mj_enter (by decide) (Nat.le_of_ble_eq_true rfl) ?_
  refine mv_iload_n d_Reader_ruleNumber_0 rfl rfl ?_
  have := mz_hi x2
  refine mv_if_ltZ (tgt := 37) (a := x2.toInt) d_Reader_ruleNumber_1 (by decide) rfl (fun b1 => ?_) (fun b1 => ?_)
  · refine mv_iconst (v := 0) d_Reader_ruleNumber_37 (by decide) ?_
    exact mv_iret d_Reader_ruleNumber_38 rfl (by decide) ⟨_, I0, _, rfl, by decide, by decide⟩
  · refine mv_iload_n d_Reader_ruleNumber_4 rfl rfl ?_
    refine mv_gets2 d_Reader_ruleNumber_5 (mj_in1 (List.mem_of_getElem? (i := 617) (by decide +kernel)) rfl) ?_
    refine mv_alen2 d_Reader_ruleNumber_8 ?_
    have := mz_hi x2
    refine mv_icmp_geZ (tgt := 37) (a := x2.toInt) (b := 6) d_Reader_ruleNumber_9 (by decide) rfl (by decide) (fun b2 => ?_) (fun b2 => ?_)
    · refine mv_iconst (v := 0) d_Reader_ruleNumber_37 (by decide) ?_
      exact mv_iret d_Reader_ruleNumber_38 rfl (by decide) ⟨_, I0, _, rfl, by decide, by decide⟩
    · refine mv_iload_n d_Reader_ruleNumber_12 rfl rfl ?_
      refine mv_gets3 d_Reader_ruleNumber_13 (mj_in1 (List.mem_of_getElem? (i := 619) (by decide +kernel)) rfl) ?_
      refine mv_alen3 d_Reader_ruleNumber_16 ?_
      have := mz_hi x2
      refine mv_icmp_geZ (tgt := 37) (a := x2.toInt) (b := 6) d_Reader_ruleNumber_17 (by decide) rfl (by decide) (fun b3 => absurd b3 (by omega)) (fun b3 => ?_)
      refine mv_aload_n d_Reader_ruleNumber_20 rfl rfl ?_
      refine mv_gets2 d_Reader_ruleNumber_21 (mj_in1 (List.mem_of_getElem? (i := 617) (by decide +kernel)) rfl) ?_
      refine mv_iload_n d_Reader_ruleNumber_24 rfl rfl ?_
      obtain ⟨v4, q5⟩ := tm_rl (i := x2) (by omega) (by omega)
      refine mv_iald2 (v := v4) d_Reader_ruleNumber_25 (vp_in_iff.mpr (by omega)) q5 ?_
      refine mv_gets3 d_Reader_ruleNumber_26 (mj_in1 (List.mem_of_getElem? (i := 619) (by decide +kernel)) rfl) ?_
      refine mv_iload_n d_Reader_ruleNumber_29 rfl rfl ?_
      obtain ⟨v6, q7⟩ := tm_rm (i := x2) (by omega) (by omega)
      refine mv_iald3 (v := v6) d_Reader_ruleNumber_30 (vp_in_iff.mpr (by omega)) q7 ?_
      obtain ⟨_, b14, -⟩ := I0.1 _ _ h_o0
      refine mv_callV (kc' := 0) (ks' := 0) (As := [.int v4, .int v6]) (st9 := [.int v6, .int v4, .ref o0]) d_Reader_ruleNumber_31 lV_Reader_107 b14 rfl (tc_Reader_numeral (d := d) (x9 := x9) (o0 := o0) (x1 := v4) (x2 := v6) h_o0 I0.start) rfl (Nat.le_of_ble_eq_true rfl) (Nat.le_of_ble_eq_true rfl) (Nat.le_of_ble_eq_true rfl) (hst := rfl) (fun b8r M9 n10 b8 => ?_)
      obtain ⟨T11, J12, v15, rfl, b16, b17⟩ := b8
      have I13 := I0.call J12 (tm_sub (by decide)) (Or.inl rfl)
      have t18 := J12.up h_o0
      have t19 := J12.up h_o1
      have := mz_hi v15
      refine mv_if_neZ (tgt := 39) (a := v15.toInt) d_Reader_ruleNumber_34 (by decide) rfl (fun b20 => ?_) (fun b20 => ?_)
      · refine mv_aload_n d_Reader_ruleNumber_39 rfl rfl ?_
        refine mv_iload_n d_Reader_ruleNumber_40 rfl rfl ?_
        refine mv_aload_n d_Reader_ruleNumber_41 rfl rfl ?_
        obtain ⟨v22, q21⟩ := tm_atI I13 t18 (k := 14) rfl
        refine tr_getK q21 d_Reader_ruleNumber_42 f_Reader_111_9 ?_
        obtain ⟨_, b29, -⟩ := I13.1 _ _ t19
        refine mv_callV (kc' := 0) (ks' := 0) (As := [.int x2, .int v22]) (st9 := [.int v22, .int x2, .ref o1]) d_Reader_ruleNumber_45 lV_Reader_114 b29 rfl (tc_Act_setRule (d := (d + 1)) (x9 := x9) (o0 := o1) (x1 := x2) (x2 := v22) t19 I13.start) rfl (Nat.le_of_ble_eq_true rfl) (Nat.le_of_ble_eq_true rfl) (Nat.le_of_ble_eq_true rfl) (hst := rfl) (fun b23r M24 n25 b23 => ?_)
        obtain ⟨T26, J27, rfl⟩ := b23
        have I28 := I13.call J27 (tm_sub (by decide)) (Or.inl rfl)
        have t30 := J27.up t18
        have t31 := J27.up t19
        have q32 := J27.keep t18 (by decide) q21
        refine mv_iconst (v := 1) d_Reader_ruleNumber_48 (by decide) ?_
        exact mv_iret d_Reader_ruleNumber_49 rfl (by decide) ⟨_, I28, _, rfl, by decide, by decide⟩
      · refine mv_iconst (v := 0) d_Reader_ruleNumber_37 (by decide) ?_
        exact mv_iret d_Reader_ruleNumber_38 rfl (by decide) ⟨_, I13, _, rfl, by decide, by decide⟩
theorem lV_Reader_97 : mj_lV "TrustDesk$Reader" 97 kY_Reader_ruleNumber 2 := ⟨⟨(mj_in1 (List.mem_of_getElem? (i := 613) (by decide +kernel)) rfl), (mj_in1 (List.mem_of_getElem? (i := 3) (by decide +kernel)) rfl), (mj_in1 (List.mem_of_getElem? (i := 616) (by decide +kernel)) rfl), by decide, rfl, by decide⟩, (mj_in1 (List.mem_of_getElem? (i := 615) (by decide +kernel)) rfl), (mj_in (List.mem_append_left _ (List.mem_of_getElem? (i := 33) (by decide +kernel))) rfl)⟩
theorem d_Reader_rule_81 : decode kY_Reader_rule.2.1 81 = .ok (.ifCond .eq 16, 3) := by decide +kernel
theorem d_Reader_rule_97 : decode kY_Reader_rule.2.1 97 = .ok (.iconst 0, 1) := by decide +kernel
theorem d_Reader_rule_98 : decode kY_Reader_rule.2.1 98 = .ok (.ireturn, 1) := by decide +kernel
theorem d_Reader_rule_84 : decode kY_Reader_rule.2.1 84 = .ok (.aload_n 0, 1) := by decide +kernel
theorem d_Reader_rule_85 : decode kY_Reader_rule.2.1 85 = .ok (.bipush 59, 2) := by decide +kernel
theorem d_Reader_rule_87 : decode kY_Reader_rule.2.1 87 = .ok (.invokevirtual 63, 3) := by decide +kernel
abbrev kY_Reader_sign : mj_Y := (⟨"TrustDesk$Reader", "sign", "(C)Z"⟩, prog_10_method_28_code, 2, (Option.some Jvm.ClassFile.FieldType.boolean))
theorem d_Reader_sign_0 : decode kY_Reader_sign.2.1 0 = .ok (.aload_n 0, 1) := by decide +kernel
theorem d_Reader_sign_1 : decode kY_Reader_sign.2.1 1 = .ok (.iload_n 1, 1) := by decide +kernel
theorem d_Reader_sign_2 : decode kY_Reader_sign.2.1 2 = .ok (.invokevirtual 209, 3) := by decide +kernel
abbrev kY_Reader_isSign : mj_Y := (⟨"TrustDesk$Reader", "isSign", "(C)Z"⟩, prog_10_method_30_code, 2, (Option.some Jvm.ClassFile.FieldType.boolean))
theorem d_Reader_isSign_0 : decode kY_Reader_isSign.2.1 0 = .ok (.aload_n 0, 1) := by decide +kernel
theorem d_Reader_isSign_1 : decode kY_Reader_isSign.2.1 1 = .ok (.getfield 41, 3) := by decide +kernel
theorem d_Reader_isSign_4 : decode kY_Reader_isSign.2.1 4 = .ok (.iconst 3, 1) := by decide +kernel
theorem d_Reader_isSign_5 : decode kY_Reader_isSign.2.1 5 = .ok (.if_icmp .ne 15, 3) := by decide +kernel
theorem d_Reader_isSign_20 : decode kY_Reader_isSign.2.1 20 = .ok (.iconst 0, 1) := by decide +kernel
theorem d_Reader_isSign_21 : decode kY_Reader_isSign.2.1 21 = .ok (.ireturn, 1) := by decide +kernel
theorem d_Reader_isSign_8 : decode kY_Reader_isSign.2.1 8 = .ok (.aload_n 0, 1) := by decide +kernel
theorem d_Reader_isSign_9 : decode kY_Reader_isSign.2.1 9 = .ok (.getfield 241, 3) := by decide +kernel
theorem d_Reader_isSign_12 : decode kY_Reader_isSign.2.1 12 = .ok (.iload_n 1, 1) := by decide +kernel
theorem d_Reader_isSign_13 : decode kY_Reader_isSign.2.1 13 = .ok (.if_icmp .ne 7, 3) := by decide +kernel
theorem d_Reader_isSign_16 : decode kY_Reader_isSign.2.1 16 = .ok (.iconst 1, 1) := by decide +kernel
theorem d_Reader_isSign_17 : decode kY_Reader_isSign.2.1 17 = .ok (.goto 4, 3) := by decide +kernel
def w_Reader_isSign : List Nat := []
theorem tc_Reader_isSign {g : mj_G} {l : Launch} {d : Nat} {T0 : tm_H} {M0 : mj_M} {n0 x9 : Nat} {o0 : Nat} {x1 : Int32} (h_o0 : T0 o0 = some (0, 9, 0)) (I0 : tm_I tm_FT (tm_in w_Reader_isSign) x9 T0 M0 n0 T0 M0 n0) : mj_Met g l kY_Reader_isSign d [.ref o0, .int x1] M0 n0 0 0 (tm_Q tm_FT (tm_in w_Reader_isSign) x9 T0 M0 n0 (fun r _ _ => ∃ v : Int32, r = some (.int v) ∧ 0 ≤ v.toInt ∧ v.toInt ≤ 1)) := by
  refine mj_enter (by decide) (Nat.le_of_ble_eq_true rfl) ?_
  refine mv_aload_n d_Reader_isSign_0 rfl rfl ?_
  obtain ⟨v2, q1⟩ := tm_atI I0 h_o0 (k := 10) rfl
  refine tr_getK q1 d_Reader_isSign_1 f_Reader_41_9 ?_
  refine mv_iconst (v := 3) d_Reader_isSign_4 (by decide) ?_
  have := mz_hi v2
  refine mv_icmp_neZ (tgt := 20) (a := v2.toInt) (b := 3) d_Reader_isSign_5 (by decide) rfl (by decide) (fun b3 => ?_) (fun b3 => ?_)
  · refine mv_iconst (v := 0) d_Reader_isSign_20 (by decide) ?_
    exact mv_iret d_Reader_isSign_21 rfl (by decide) ⟨_, I0, _, rfl, by decide, by decide⟩
  · refine mv_aload_n d_Reader_isSign_8 rfl rfl ?_
    obtain ⟨v5, q4⟩ := tm_atI I0 h_o0 (k := 13) rfl
    refine tr_getK q4 d_Reader_isSign_9 f_Reader_241_9 ?_
    refine mv_iload_n d_Reader_isSign_12 rfl rfl ?_
    have := mz_hi v5
    have := mz_hi x1
    refine mv_icmp_neZ (tgt := 20) (a := v5.toInt) (b := x1.toInt) d_Reader_isSign_13 (by decide) rfl rfl (fun b6 => ?_) (fun b6 => ?_)
    · refine mv_iconst (v := 0) d_Reader_isSign_20 (by decide) ?_
      exact mv_iret d_Reader_isSign_21 rfl (by decide) ⟨_, I0, _, rfl, by decide, by decide⟩
    · refine mv_iconst (v := 1) d_Reader_isSign_16 (by decide) ?_
      refine mv_goto (tgt := 21) d_Reader_isSign_17 (by decide) ?_
      exact mv_iret d_Reader_isSign_21 rfl (by decide) ⟨_, I0, _, rfl, by decide, by decide⟩
theorem lV_Reader_209 : mj_lV "TrustDesk$Reader" 209 kY_Reader_isSign 1 := ⟨⟨(mj_in1 (List.mem_of_getElem? (i := 487) (by decide +kernel)) rfl), (mj_in1 (List.mem_of_getElem? (i := 3) (by decide +kernel)) rfl), (mj_in1 (List.mem_of_getElem? (i := 490) (by decide +kernel)) rfl), by decide, rfl, by decide⟩, (mj_in1 (List.mem_of_getElem? (i := 489) (by decide +kernel)) rfl), (mj_in (List.mem_append_left _ (List.mem_of_getElem? (i := 20) (by decide +kernel))) rfl)⟩
theorem d_Reader_sign_5 : decode kY_Reader_sign.2.1 5 = .ok (.ifCond .ne 9, 3) := by decide +kernel
theorem d_Reader_sign_14 : decode kY_Reader_sign.2.1 14 = .ok (.aload_n 0, 1) := by decide +kernel
theorem d_Reader_sign_15 : decode kY_Reader_sign.2.1 15 = .ok (.invokevirtual 82, 3) := by decide +kernel
theorem d_Reader_sign_18 : decode kY_Reader_sign.2.1 18 = .ok (.iconst 1, 1) := by decide +kernel
theorem d_Reader_sign_19 : decode kY_Reader_sign.2.1 19 = .ok (.ireturn, 1) := by decide +kernel
theorem d_Reader_sign_8 : decode kY_Reader_sign.2.1 8 = .ok (.aload_n 0, 1) := by decide +kernel
theorem d_Reader_sign_9 : decode kY_Reader_sign.2.1 9 = .ok (.iconst 1, 1) := by decide +kernel
theorem d_Reader_sign_10 : decode kY_Reader_sign.2.1 10 = .ok (.invokevirtual 56, 3) := by decide +kernel
theorem d_Reader_sign_13 : decode kY_Reader_sign.2.1 13 = .ok (.ireturn, 1) := by decide +kernel
def w_Reader_sign : List Nat := [901, 902, 909, 910, 911, 912, 913]
theorem tc_Reader_sign {g : mj_G} {l : Launch} {d : Nat} {T0 : tm_H} {M0 : mj_M} {n0 x9 : Nat} {o0 : Nat} {x1 : Int32} (h_o0 : T0 o0 = some (0, 9, 0)) (I0 : tm_I tm_FT (tm_in w_Reader_sign) x9 T0 M0 n0 T0 M0 n0) : mj_Met g l kY_Reader_sign (d + 1) [.ref o0, .int x1] M0 n0 0 0 (tm_Q tm_FT (tm_in w_Reader_sign) x9 T0 M0 n0 (fun r _ _ => ∃ v : Int32, r = some (.int v) ∧ 0 ≤ v.toInt ∧ v.toInt ≤ 1)) := by
  refine mj_enter (by decide) (Nat.le_of_ble_eq_true rfl) ?_
  refine mv_aload_n d_Reader_sign_0 rfl rfl ?_
  refine mv_iload_n d_Reader_sign_1 rfl rfl ?_
  obtain ⟨_, b7, -⟩ := I0.1 _ _ h_o0
  refine mv_callV (kc' := 0) (ks' := 0) (As := [.int x1]) (st9 := [.int x1, .ref o0]) d_Reader_sign_2 lV_Reader_209 b7 rfl (tc_Reader_isSign (d := d) (x9 := x9) (o0 := o0) (x1 := x1) h_o0 I0.start) rfl (Nat.le_of_ble_eq_true rfl) (Nat.le_of_ble_eq_true rfl) (Nat.le_of_ble_eq_true rfl) (hst := rfl) (fun b1r M2 n3 b1 => ?_)
  obtain ⟨T4, J5, v8, rfl, b9, b10⟩ := b1
  have I6 := I0.call J5 (tm_sub (by decide)) (Or.inl rfl)
  have t11 := J5.up h_o0
  have := mz_hi v8
  refine mv_if_neZ (tgt := 14) (a := v8.toInt) d_Reader_sign_5 (by decide) rfl (fun b12 => ?_) (fun b12 => ?_)
  · refine mv_aload_n d_Reader_sign_14 rfl rfl ?_
    obtain ⟨_, b19, -⟩ := I6.1 _ _ t11
    refine mv_callV (kc' := 0) (ks' := 0) (As := []) (st9 := [.ref o0]) d_Reader_sign_15 lV_Reader_82 b19 rfl (tc_Reader_advance (d := d) (x9 := x9) (o0 := o0) t11 I6.start) rfl (Nat.le_of_ble_eq_true rfl) (Nat.le_of_ble_eq_true rfl) (Nat.le_of_ble_eq_true rfl) (hst := rfl) (fun b13r M14 n15 b13 => ?_)
    obtain ⟨T16, J17, rfl⟩ := b13
    have I18 := I6.call J17 (tm_sub (by decide)) (Or.inl rfl)
    have t20 := J17.up t11
    refine mv_iconst (v := 1) d_Reader_sign_18 (by decide) ?_
    exact mv_iret d_Reader_sign_19 rfl (by decide) ⟨_, I18, _, rfl, by decide, by decide⟩
  · refine mv_aload_n d_Reader_sign_8 rfl rfl ?_
    refine mv_iconst (v := 1) d_Reader_sign_9 (by decide) ?_
    obtain ⟨_, b27, -⟩ := I6.1 _ _ t11
    refine mv_callV (kc' := 0) (ks' := 0) (As := [.int 1]) (st9 := [.int 1, .ref o0]) d_Reader_sign_10 lV_Reader_56 b27 rfl (tc_Reader_refuse (d := d) (x9 := x9) (o0 := o0) (x1 := 1) t11 I6.start) rfl (Nat.le_of_ble_eq_true rfl) (Nat.le_of_ble_eq_true rfl) (Nat.le_of_ble_eq_true rfl) (hst := rfl) (fun b21r M22 n23 b21 => ?_)
    obtain ⟨T24, J25, rfl⟩ := b21
    have I26 := I6.call J25 (tm_sub (by decide)) (Or.inl rfl)
    have t28 := J25.up t11
    exact mv_iret d_Reader_sign_13 rfl (by decide) ⟨_, I26, _, rfl, by decide, by decide⟩
theorem lV_Reader_63 : mj_lV "TrustDesk$Reader" 63 kY_Reader_sign 1 := ⟨⟨(mj_in1 (List.mem_of_getElem? (i := 495) (by decide +kernel)) rfl), (mj_in1 (List.mem_of_getElem? (i := 3) (by decide +kernel)) rfl), (mj_in1 (List.mem_of_getElem? (i := 498) (by decide +kernel)) rfl), by decide, rfl, by decide⟩, (mj_in1 (List.mem_of_getElem? (i := 497) (by decide +kernel)) rfl), (mj_in (List.mem_append_left _ (List.mem_of_getElem? (i := 22) (by decide +kernel))) rfl)⟩
theorem d_Reader_rule_90 : decode kY_Reader_rule.2.1 90 = .ok (.ifCond .eq 7, 3) := by decide +kernel
theorem d_Reader_rule_93 : decode kY_Reader_rule.2.1 93 = .ok (.iconst 1, 1) := by decide +kernel
theorem d_Reader_rule_94 : decode kY_Reader_rule.2.1 94 = .ok (.goto 4, 3) := by decide +kernel
theorem d_Reader_rule_64 : decode kY_Reader_rule.2.1 64 = .ok (.aload_n 0, 1) := by decide +kernel
theorem d_Reader_rule_65 : decode kY_Reader_rule.2.1 65 = .ok (.aload_n 1, 1) := by decide +kernel
theorem d_Reader_rule_66 : decode kY_Reader_rule.2.1 66 = .ok (.invokevirtual 94, 3) := by decide +kernel
abbrev kY_Reader_bar : mj_Y := (⟨"TrustDesk$Reader", "bar", "(LTrustDesk$Act;)Z"⟩, prog_10_method_9_code, 3, (Option.some Jvm.ClassFile.FieldType.boolean))
theorem d_Reader_bar_0 : decode kY_Reader_bar.2.1 0 = .ok (.aload_n 0, 1) := by decide +kernel
theorem d_Reader_bar_1 : decode kY_Reader_bar.2.1 1 = .ok (.bipush 19, 2) := by decide +kernel
theorem d_Reader_bar_3 : decode kY_Reader_bar.2.1 3 = .ok (.iconst 4, 1) := by decide +kernel
theorem d_Reader_bar_4 : decode kY_Reader_bar.2.1 4 = .ok (.invokevirtual 85, 3) := by decide +kernel
theorem d_Reader_bar_7 : decode kY_Reader_bar.2.1 7 = .ok (.istore_n 2, 1) := by decide +kernel
theorem d_Reader_bar_8 : decode kY_Reader_bar.2.1 8 = .ok (.iload_n 2, 1) := by decide +kernel
theorem d_Reader_bar_9 : decode kY_Reader_bar.2.1 9 = .ok (.iconst (-1), 1) := by decide +kernel
theorem d_Reader_bar_10 : decode kY_Reader_bar.2.1 10 = .ok (.if_icmp .ne 9, 3) := by decide +kernel
theorem d_Reader_bar_19 : decode kY_Reader_bar.2.1 19 = .ok (.aload_n 0, 1) := by decide +kernel
theorem d_Reader_bar_20 : decode kY_Reader_bar.2.1 20 = .ok (.invokevirtual 82, 3) := by decide +kernel
theorem d_Reader_bar_23 : decode kY_Reader_bar.2.1 23 = .ok (.aload_n 0, 1) := by decide +kernel
theorem d_Reader_bar_24 : decode kY_Reader_bar.2.1 24 = .ok (.iconst 0, 1) := by decide +kernel
theorem d_Reader_bar_25 : decode kY_Reader_bar.2.1 25 = .ok (.putfield 118, 3) := by decide +kernel
theorem p_Reader_118_9 : mj_fp "TrustDesk$Reader" 118 9 18 (kt_Reader 18) false := ⟨kR_Reader, kF_Reader, 19, "TrustDesk$Reader", kt_Reader, rfl, kg_9, by decide, (mj_in1 (List.mem_of_getElem? (i := 90) (by decide +kernel)) rfl), Or.inl rfl, kto_Reader, kn_Reader, rfl, rfl, fun h => by cases h⟩
theorem d_Reader_bar_28 : decode kY_Reader_bar.2.1 28 = .ok (.aload_n 0, 1) := by decide +kernel
theorem d_Reader_bar_29 : decode kY_Reader_bar.2.1 29 = .ok (.bipush 28, 2) := by decide +kernel
theorem d_Reader_bar_31 : decode kY_Reader_bar.2.1 31 = .ok (.invokevirtual 121, 3) := by decide +kernel
abbrev kY_Reader_word : mj_Y := (⟨"TrustDesk$Reader", "word", "(I)Z"⟩, prog_10_method_27_code, 2, (Option.some Jvm.ClassFile.FieldType.boolean))
theorem d_Reader_word_0 : decode kY_Reader_word.2.1 0 = .ok (.aload_n 0, 1) := by decide +kernel
theorem d_Reader_word_1 : decode kY_Reader_word.2.1 1 = .ok (.iload_n 1, 1) := by decide +kernel
theorem d_Reader_word_2 : decode kY_Reader_word.2.1 2 = .ok (.invokevirtual 52, 3) := by decide +kernel
theorem d_Reader_word_5 : decode kY_Reader_word.2.1 5 = .ok (.ifCond .ne 9, 3) := by decide +kernel
theorem d_Reader_word_14 : decode kY_Reader_word.2.1 14 = .ok (.aload_n 0, 1) := by decide +kernel
theorem d_Reader_word_15 : decode kY_Reader_word.2.1 15 = .ok (.invokevirtual 82, 3) := by decide +kernel
theorem d_Reader_word_18 : decode kY_Reader_word.2.1 18 = .ok (.iconst 1, 1) := by decide +kernel
theorem d_Reader_word_19 : decode kY_Reader_word.2.1 19 = .ok (.ireturn, 1) := by decide +kernel
theorem d_Reader_word_8 : decode kY_Reader_word.2.1 8 = .ok (.aload_n 0, 1) := by decide +kernel
theorem d_Reader_word_9 : decode kY_Reader_word.2.1 9 = .ok (.iconst 1, 1) := by decide +kernel
theorem d_Reader_word_10 : decode kY_Reader_word.2.1 10 = .ok (.invokevirtual 56, 3) := by decide +kernel
theorem d_Reader_word_13 : decode kY_Reader_word.2.1 13 = .ok (.ireturn, 1) := by decide +kernel
def w_Reader_word : List Nat := [901, 902, 909, 910, 911, 912, 913]
theorem tc_Reader_word {g : mj_G} {l : Launch} {d : Nat} {T0 : tm_H} {M0 : mj_M} {n0 x9 : Nat} {o0 : Nat} {x1 : Int32} (h_o0 : T0 o0 = some (0, 9, 0)) (I0 : tm_I tm_FT (tm_in w_Reader_word) x9 T0 M0 n0 T0 M0 n0) : mj_Met g l kY_Reader_word (d + 1) [.ref o0, .int x1] M0 n0 0 0 (tm_Q tm_FT (tm_in w_Reader_word) x9 T0 M0 n0 (fun r _ _ => ∃ v : Int32, r = some (.int v) ∧ 0 ≤ v.toInt ∧ v.toInt ≤ 1)) := by
  refine mj_enter (by decide) (Nat.le_of_ble_eq_true rfl) ?_
  refine mv_aload_n d_Reader_word_0 rfl rfl ?_
  refine mv_iload_n d_Reader_word_1 rfl rfl ?_
  obtain ⟨_, b7, -⟩ := I0.1 _ _ h_o0
  refine mv_callV (kc' := 0) (ks' := 0) (As := [.int x1]) (st9 := [.int x1, .ref o0]) d_Reader_word_2 lV_Reader_52 b7 rfl (tc_Reader_isWord (d := d) (x9 := x9) (o0 := o0) (x1 := x1) h_o0 I0.start) rfl (Nat.le_of_ble_eq_true rfl) (Nat.le_of_ble_eq_true rfl) (Nat.le_of_ble_eq_true rfl) (hst := rfl) (fun b1r M2 n3 b1 => ?_)
  obtain ⟨T4, J5, v8, rfl, b9, b10⟩ := b1
  have I6 := I0.call J5 (tm_sub (by decide)) (Or.inl rfl)
  have t11 := J5.up h_o0
  have := mz_hi v8
  refine mv_if_neZ (tgt := 14) (a := v8.toInt) d_Reader_word_5 (by decide) rfl (fun b12 => ?_) (fun b12 => ?_)
  · refine mv_aload_n d_Reader_word_14 rfl rfl ?_
    obtain ⟨_, b19, -⟩ := I6.1 _ _ t11
    refine mv_callV (kc' := 0) (ks' := 0) (As := []) (st9 := [.ref o0]) d_Reader_word_15 lV_Reader_82 b19 rfl (tc_Reader_advance (d := d) (x9 := x9) (o0 := o0) t11 I6.start) rfl (Nat.le_of_ble_eq_true rfl) (Nat.le_of_ble_eq_true rfl) (Nat.le_of_ble_eq_true rfl) (hst := rfl) (fun b13r M14 n15 b13 => ?_)
    obtain ⟨T16, J17, rfl⟩ := b13
    have I18 := I6.call J17 (tm_sub (by decide)) (Or.inl rfl)
    have t20 := J17.up t11
    refine mv_iconst (v := 1) d_Reader_word_18 (by decide) ?_
    exact mv_iret d_Reader_word_19 rfl (by decide) ⟨_, I18, _, rfl, by decide, by decide⟩
  · refine mv_aload_n d_Reader_word_8 rfl rfl ?_
    refine mv_iconst (v := 1) d_Reader_word_9 (by decide) ?_
    obtain ⟨_, b27, -⟩ := I6.1 _ _ t11
    refine mv_callV (kc' := 0) (ks' := 0) (As := [.int 1]) (st9 := [.int 1, .ref o0]) d_Reader_word_10 lV_Reader_56 b27 rfl (tc_Reader_refuse (d := d) (x9 := x9) (o0 := o0) (x1 := 1) t11 I6.start) rfl (Nat.le_of_ble_eq_true rfl) (Nat.le_of_ble_eq_true rfl) (Nat.le_of_ble_eq_true rfl) (hst := rfl) (fun b21r M22 n23 b21 => ?_)
    obtain ⟨T24, J25, rfl⟩ := b21
    have I26 := I6.call J25 (tm_sub (by decide)) (Or.inl rfl)
    have t28 := J25.up t11
    exact mv_iret d_Reader_word_13 rfl (by decide) ⟨_, I26, _, rfl, by decide, by decide⟩
theorem lV_Reader_121 : mj_lV "TrustDesk$Reader" 121 kY_Reader_word 1 := ⟨⟨(mj_in1 (List.mem_of_getElem? (i := 471) (by decide +kernel)) rfl), (mj_in1 (List.mem_of_getElem? (i := 3) (by decide +kernel)) rfl), (mj_in1 (List.mem_of_getElem? (i := 474) (by decide +kernel)) rfl), by decide, rfl, by decide⟩, (mj_in1 (List.mem_of_getElem? (i := 473) (by decide +kernel)) rfl), (mj_in (List.mem_append_left _ (List.mem_of_getElem? (i := 16) (by decide +kernel))) rfl)⟩
theorem d_Reader_bar_34 : decode kY_Reader_bar.2.1 34 = .ok (.ifCond .eq 10, 3) := by decide +kernel
theorem d_Reader_bar_44 : decode kY_Reader_bar.2.1 44 = .ok (.iconst 0, 1) := by decide +kernel
theorem d_Reader_bar_45 : decode kY_Reader_bar.2.1 45 = .ok (.ireturn, 1) := by decide +kernel
theorem d_Reader_bar_37 : decode kY_Reader_bar.2.1 37 = .ok (.aload_n 0, 1) := by decide +kernel
theorem d_Reader_bar_38 : decode kY_Reader_bar.2.1 38 = .ok (.invokevirtual 124, 3) := by decide +kernel
abbrev kY_Reader_condition : mj_Y := (⟨"TrustDesk$Reader", "condition", "()Z"⟩, prog_10_method_15_code, 2, (Option.some Jvm.ClassFile.FieldType.boolean))
theorem d_Reader_condition_0 : decode kY_Reader_condition.2.1 0 = .ok (.aload_n 0, 1) := by decide +kernel
theorem d_Reader_condition_1 : decode kY_Reader_condition.2.1 1 = .ok (.invokevirtual 198, 3) := by decide +kernel
abbrev kY_Reader_both : mj_Y := (⟨"TrustDesk$Reader", "both", "()Z"⟩, prog_10_method_16_code, 2, (Option.some Jvm.ClassFile.FieldType.boolean))
theorem d_Reader_both_0 : decode kY_Reader_both.2.1 0 = .ok (.aload_n 0, 1) := by decide +kernel
theorem d_Reader_both_1 : decode kY_Reader_both.2.1 1 = .ok (.invokevirtual 206, 3) := by decide +kernel
abbrev kY_Reader_term : mj_Y := (⟨"TrustDesk$Reader", "term", "()Z"⟩, prog_10_method_17_code, 3, (Option.some Jvm.ClassFile.FieldType.boolean))
theorem d_Reader_term_0 : decode kY_Reader_term.2.1 0 = .ok (.iconst 0, 1) := by decide +kernel
theorem d_Reader_term_1 : decode kY_Reader_term.2.1 1 = .ok (.istore_n 1, 1) := by decide +kernel
theorem d_Reader_term_2 : decode kY_Reader_term.2.1 2 = .ok (.iconst 0, 1) := by decide +kernel
theorem d_Reader_term_3 : decode kY_Reader_term.2.1 3 = .ok (.istore_n 2, 1) := by decide +kernel
theorem d_Reader_term_4 : decode kY_Reader_term.2.1 4 = .ok (.iload_n 2, 1) := by decide +kernel
theorem d_Reader_term_5 : decode kY_Reader_term.2.1 5 = .ok (.sipush 400, 3) := by decide +kernel
theorem d_Reader_term_8 : decode kY_Reader_term.2.1 8 = .ok (.if_icmp .ge 32, 3) := by decide +kernel
theorem d_Reader_term_40 : decode kY_Reader_term.2.1 40 = .ok (.aload_n 0, 1) := by decide +kernel
theorem d_Reader_term_41 : decode kY_Reader_term.2.1 41 = .ok (.bipush 91, 2) := by decide +kernel
theorem d_Reader_term_43 : decode kY_Reader_term.2.1 43 = .ok (.invokevirtual 209, 3) := by decide +kernel
theorem d_Reader_term_46 : decode kY_Reader_term.2.1 46 = .ok (.ifCond .eq 40, 3) := by decide +kernel
theorem d_Reader_term_86 : decode kY_Reader_term.2.1 86 = .ok (.aload_n 0, 1) := by decide +kernel
theorem d_Reader_term_87 : decode kY_Reader_term.2.1 87 = .ok (.invokevirtual 186, 3) := by decide +kernel
abbrev kY_Reader_sum : mj_Y := (⟨"TrustDesk$Reader", "sum", "()Z"⟩, prog_10_method_19_code, 3, (Option.some Jvm.ClassFile.FieldType.boolean))
theorem d_Reader_sum_0 : decode kY_Reader_sum.2.1 0 = .ok (.aload_n 0, 1) := by decide +kernel
theorem d_Reader_sum_1 : decode kY_Reader_sum.2.1 1 = .ok (.invokevirtual 218, 3) := by decide +kernel
abbrev kY_Reader_product : mj_Y := (⟨"TrustDesk$Reader", "product", "()Z"⟩, prog_10_method_20_code, 2, (Option.some Jvm.ClassFile.FieldType.boolean))
theorem d_Reader_product_0 : decode kY_Reader_product.2.1 0 = .ok (.aload_n 0, 1) := by decide +kernel
theorem d_Reader_product_1 : decode kY_Reader_product.2.1 1 = .ok (.invokevirtual 221, 3) := by decide +kernel
abbrev kY_Reader_factor : mj_Y := (⟨"TrustDesk$Reader", "factor", "()Z"⟩, prog_10_method_21_code, 2, (Option.some Jvm.ClassFile.FieldType.boolean))
theorem d_Reader_factor_0 : decode kY_Reader_factor.2.1 0 = .ok (.aload_n 0, 1) := by decide +kernel
theorem d_Reader_factor_1 : decode kY_Reader_factor.2.1 1 = .ok (.getfield 41, 3) := by decide +kernel
theorem d_Reader_factor_4 : decode kY_Reader_factor.2.1 4 = .ok (.iconst 2, 1) := by decide +kernel
theorem d_Reader_factor_5 : decode kY_Reader_factor.2.1 5 = .ok (.if_icmp .ne 27, 3) := by decide +kernel
theorem d_Reader_factor_32 : decode kY_Reader_factor.2.1 32 = .ok (.aload_n 0, 1) := by decide +kernel
theorem d_Reader_factor_33 : decode kY_Reader_factor.2.1 33 = .ok (.getfield 41, 3) := by decide +kernel
theorem d_Reader_factor_36 : decode kY_Reader_factor.2.1 36 = .ok (.iconst 1, 1) := by decide +kernel
theorem d_Reader_factor_37 : decode kY_Reader_factor.2.1 37 = .ok (.if_icmp .ne 36, 3) := by decide +kernel
theorem d_Reader_factor_73 : decode kY_Reader_factor.2.1 73 = .ok (.aload_n 0, 1) := by decide +kernel
theorem d_Reader_factor_74 : decode kY_Reader_factor.2.1 74 = .ok (.bipush 40, 2) := by decide +kernel
theorem d_Reader_factor_76 : decode kY_Reader_factor.2.1 76 = .ok (.invokevirtual 209, 3) := by decide +kernel
theorem d_Reader_factor_79 : decode kY_Reader_factor.2.1 79 = .ok (.ifCond .ne 9, 3) := by decide +kernel
theorem d_Reader_factor_88 : decode kY_Reader_factor.2.1 88 = .ok (.aload_n 0, 1) := by decide +kernel
theorem d_Reader_factor_89 : decode kY_Reader_factor.2.1 89 = .ok (.invokevirtual 212, 3) := by decide +kernel
abbrev kY_Reader_openBracket : mj_Y := (⟨"TrustDesk$Reader", "openBracket", "()Z"⟩, prog_10_method_22_code, 1, (Option.some Jvm.ClassFile.FieldType.boolean))
theorem d_Reader_openBracket_0 : decode kY_Reader_openBracket.2.1 0 = .ok (.aload_n 0, 1) := by decide +kernel
theorem d_Reader_openBracket_1 : decode kY_Reader_openBracket.2.1 1 = .ok (.getfield 73, 3) := by decide +kernel
theorem f_Reader_73_9 : mj_fl "TrustDesk$Reader" 73 9 16 := ⟨kR_Reader, kF_Reader, 19, "TrustDesk$Reader", rfl, kg_9, by decide, (mj_in1 (List.mem_of_getElem? (i := 88) (by decide +kernel)) rfl), Or.inl rfl⟩
theorem d_Reader_openBracket_4 : decode kY_Reader_openBracket.2.1 4 = .ok (.iconst 4, 1) := by decide +kernel
theorem d_Reader_openBracket_5 : decode kY_Reader_openBracket.2.1 5 = .ok (.if_icmp .lt 9, 3) := by decide +kernel
theorem d_Reader_openBracket_14 : decode kY_Reader_openBracket.2.1 14 = .ok (.aload_n 0, 1) := by decide +kernel
theorem d_Reader_openBracket_15 : decode kY_Reader_openBracket.2.1 15 = .ok (.dup, 1) := by decide +kernel
theorem d_Reader_openBracket_16 : decode kY_Reader_openBracket.2.1 16 = .ok (.getfield 73, 3) := by decide +kernel
theorem d_Reader_openBracket_19 : decode kY_Reader_openBracket.2.1 19 = .ok (.iconst 1, 1) := by decide +kernel
theorem d_Reader_openBracket_20 : decode kY_Reader_openBracket.2.1 20 = .ok (.iadd, 1) := by decide +kernel
theorem d_Reader_openBracket_21 : decode kY_Reader_openBracket.2.1 21 = .ok (.putfield 73, 3) := by decide +kernel
theorem d_Reader_openBracket_24 : decode kY_Reader_openBracket.2.1 24 = .ok (.aload_n 0, 1) := by decide +kernel
theorem d_Reader_openBracket_25 : decode kY_Reader_openBracket.2.1 25 = .ok (.invokevirtual 82, 3) := by decide +kernel
theorem d_Reader_openBracket_28 : decode kY_Reader_openBracket.2.1 28 = .ok (.iconst 1, 1) := by decide +kernel
theorem d_Reader_openBracket_29 : decode kY_Reader_openBracket.2.1 29 = .ok (.ireturn, 1) := by decide +kernel
theorem d_Reader_openBracket_8 : decode kY_Reader_openBracket.2.1 8 = .ok (.aload_n 0, 1) := by decide +kernel
theorem d_Reader_openBracket_9 : decode kY_Reader_openBracket.2.1 9 = .ok (.iconst 4, 1) := by decide +kernel
theorem d_Reader_openBracket_10 : decode kY_Reader_openBracket.2.1 10 = .ok (.invokevirtual 56, 3) := by decide +kernel
theorem d_Reader_openBracket_13 : decode kY_Reader_openBracket.2.1 13 = .ok (.ireturn, 1) := by decide +kernel
def w_Reader_openBracket_q4 : List Nat := [901, 902, 909, 910, 911, 912, 913, 916]
theorem tc_Reader_openBracket_q4 {g : mj_G} {l : Launch} {d : Nat} {T0 : tm_H} {M0 : mj_M} {n0 x9 : Nat} {o0 : Nat} (h_o0 : T0 o0 = some (0, 9, 0)) {p : Int32} (hO : tm_at M0 o0 9 16 (.int p)) (hp : 0 ≤ p.toInt) (I0 : tm_I tm_FT (tm_in w_Reader_openBracket_q4) x9 T0 M0 n0 T0 M0 n0) : mj_Met g l kY_Reader_openBracket (d + 1) [.ref o0] M0 n0 0 0 (tm_Q tm_FT (tm_in w_Reader_openBracket_q4) x9 T0 M0 n0 (fun r _ M => ∃ v : Int32, r = some (.int v) ∧ 0 ≤ v.toInt ∧ v.toInt ≤ 1 ∧ (v.toInt = 1 → p.toInt < 4 ∧ tm_at M o0 9 16 (.int (p + 1))))) := by
  refine mj_enter (by decide) (Nat.le_of_ble_eq_true rfl) ?_
  refine mv_aload_n d_Reader_openBracket_0 rfl rfl ?_
  refine tr_getK (k := 16) hO d_Reader_openBracket_1 f_Reader_73_9 ?_
  refine mv_iconst (v := 4) d_Reader_openBracket_4 (by decide) ?_
  have := mz_hi p
  refine mv_icmp_ltZ (tgt := 14) (a := p.toInt) (b := 4) d_Reader_openBracket_5 (by decide) rfl (by decide) (fun b1 => ?_) (fun b1 => ?_)
  · refine mv_aload_n d_Reader_openBracket_14 rfl rfl ?_
    refine mv_dup d_Reader_openBracket_15 rfl ?_
    refine tr_getK (k := 16) hO d_Reader_openBracket_16 f_Reader_73_9 ?_
    refine mv_iconst (v := 1) d_Reader_openBracket_19 (by decide) ?_
    refine mv_iadd d_Reader_openBracket_20 ?_
    refine tr_putK tm_okF I0 h_o0 (k := 16) rfl ⟨_, rfl⟩ (Or.inl (by decide)) d_Reader_openBracket_21 p_Reader_73_9 rfl rfl (fun M2 I3 q4 K5 => ?_)
    refine mv_aload_n d_Reader_openBracket_24 rfl rfl ?_
    obtain ⟨_, b12, -⟩ := I3.1 _ _ h_o0
    refine mv_callV (kc' := 0) (ks' := 0) (As := []) (st9 := [.ref o0]) d_Reader_openBracket_25 lV_Reader_82 b12 rfl (tc_Reader_advance (d := d) (x9 := x9) (o0 := o0) h_o0 I3.start) rfl (Nat.le_of_ble_eq_true rfl) (Nat.le_of_ble_eq_true rfl) (Nat.le_of_ble_eq_true rfl) (hst := rfl) (fun b6r M7 n8 b6 => ?_)
    obtain ⟨T9, J10, rfl⟩ := b6
    have I11 := I3.call J10 (tm_sub (by decide)) (Or.inl rfl)
    have t13 := J10.up h_o0
    have q14 := J10.keep h_o0 (by decide) q4
    refine mv_iconst (v := 1) d_Reader_openBracket_28 (by decide) ?_
    exact mv_iret d_Reader_openBracket_29 rfl (by decide) ⟨_, I11, _, rfl, by decide, by decide, fun _ => ⟨by omega, q14⟩⟩
  · refine mv_aload_n d_Reader_openBracket_8 rfl rfl ?_
    refine mv_iconst (v := 4) d_Reader_openBracket_9 (by decide) ?_
    obtain ⟨_, b21, -⟩ := I0.1 _ _ h_o0
    refine mv_callV (kc' := 0) (ks' := 0) (As := [.int 4]) (st9 := [.int 4, .ref o0]) d_Reader_openBracket_10 lV_Reader_56 b21 rfl (tc_Reader_refuse (d := d) (x9 := x9) (o0 := o0) (x1 := 4) h_o0 I0.start) rfl (Nat.le_of_ble_eq_true rfl) (Nat.le_of_ble_eq_true rfl) (Nat.le_of_ble_eq_true rfl) (hst := rfl) (fun b15r M16 n17 b15 => ?_)
    obtain ⟨T18, J19, rfl⟩ := b15
    have I20 := I0.call J19 (tm_sub (by decide)) (Or.inl rfl)
    have t22 := J19.up h_o0
    have q23 := J19.keep h_o0 (by decide) hO
    exact mv_iret d_Reader_openBracket_13 rfl (by decide) ⟨_, I20, _, rfl, by decide, by decide, fun h => absurd h (by decide)⟩
theorem lV_Reader_212 : mj_lV "TrustDesk$Reader" 212 kY_Reader_openBracket 0 := ⟨⟨(mj_in1 (List.mem_of_getElem? (i := 491) (by decide +kernel)) rfl), (mj_in1 (List.mem_of_getElem? (i := 3) (by decide +kernel)) rfl), (mj_in1 (List.mem_of_getElem? (i := 494) (by decide +kernel)) rfl), by decide, rfl, by decide⟩, (mj_in1 (List.mem_of_getElem? (i := 493) (by decide +kernel)) rfl), (mj_in (List.mem_append_left _ (List.mem_of_getElem? (i := 21) (by decide +kernel))) rfl)⟩
theorem d_Reader_factor_92 : decode kY_Reader_factor.2.1 92 = .ok (.ifCond .eq 10, 3) := by decide +kernel
theorem d_Reader_factor_102 : decode kY_Reader_factor.2.1 102 = .ok (.iconst 0, 1) := by decide +kernel
theorem d_Reader_factor_103 : decode kY_Reader_factor.2.1 103 = .ok (.ireturn, 1) := by decide +kernel
theorem d_Reader_factor_95 : decode kY_Reader_factor.2.1 95 = .ok (.aload_n 0, 1) := by decide +kernel
theorem d_Reader_factor_96 : decode kY_Reader_factor.2.1 96 = .ok (.invokevirtual 186, 3) := by decide +kernel
def w_Reader_openBracket_q3 : List Nat := [901, 902, 909, 910, 911, 912, 913, 916]
theorem tc_Reader_openBracket_q3 {g : mj_G} {l : Launch} {d : Nat} {T0 : tm_H} {M0 : mj_M} {n0 x9 : Nat} {o0 : Nat} (h_o0 : T0 o0 = some (0, 9, 0)) {p : Int32} (hO : tm_at M0 o0 9 16 (.int p)) (hp : 1 ≤ p.toInt) (I0 : tm_I tm_FT (tm_in w_Reader_openBracket_q3) x9 T0 M0 n0 T0 M0 n0) : mj_Met g l kY_Reader_openBracket (d + 1) [.ref o0] M0 n0 0 0 (tm_Q tm_FT (tm_in w_Reader_openBracket_q3) x9 T0 M0 n0 (fun r _ M => ∃ v : Int32, r = some (.int v) ∧ 0 ≤ v.toInt ∧ v.toInt ≤ 1 ∧ (v.toInt = 1 → p.toInt < 4 ∧ tm_at M o0 9 16 (.int (p + 1))))) := by
  refine mj_enter (by decide) (Nat.le_of_ble_eq_true rfl) ?_
  refine mv_aload_n d_Reader_openBracket_0 rfl rfl ?_
  refine tr_getK (k := 16) hO d_Reader_openBracket_1 f_Reader_73_9 ?_
  refine mv_iconst (v := 4) d_Reader_openBracket_4 (by decide) ?_
  have := mz_hi p
  refine mv_icmp_ltZ (tgt := 14) (a := p.toInt) (b := 4) d_Reader_openBracket_5 (by decide) rfl (by decide) (fun b1 => ?_) (fun b1 => ?_)
  · refine mv_aload_n d_Reader_openBracket_14 rfl rfl ?_
    refine mv_dup d_Reader_openBracket_15 rfl ?_
    refine tr_getK (k := 16) hO d_Reader_openBracket_16 f_Reader_73_9 ?_
    refine mv_iconst (v := 1) d_Reader_openBracket_19 (by decide) ?_
    refine mv_iadd d_Reader_openBracket_20 ?_
    refine tr_putK tm_okF I0 h_o0 (k := 16) rfl ⟨_, rfl⟩ (Or.inl (by decide)) d_Reader_openBracket_21 p_Reader_73_9 rfl rfl (fun M2 I3 q4 K5 => ?_)
    refine mv_aload_n d_Reader_openBracket_24 rfl rfl ?_
    obtain ⟨_, b12, -⟩ := I3.1 _ _ h_o0
    refine mv_callV (kc' := 0) (ks' := 0) (As := []) (st9 := [.ref o0]) d_Reader_openBracket_25 lV_Reader_82 b12 rfl (tc_Reader_advance (d := d) (x9 := x9) (o0 := o0) h_o0 I3.start) rfl (Nat.le_of_ble_eq_true rfl) (Nat.le_of_ble_eq_true rfl) (Nat.le_of_ble_eq_true rfl) (hst := rfl) (fun b6r M7 n8 b6 => ?_)
    obtain ⟨T9, J10, rfl⟩ := b6
    have I11 := I3.call J10 (tm_sub (by decide)) (Or.inl rfl)
    have t13 := J10.up h_o0
    have q14 := J10.keep h_o0 (by decide) q4
    refine mv_iconst (v := 1) d_Reader_openBracket_28 (by decide) ?_
    exact mv_iret d_Reader_openBracket_29 rfl (by decide) ⟨_, I11, _, rfl, by decide, by decide, fun _ => ⟨by omega, q14⟩⟩
  · refine mv_aload_n d_Reader_openBracket_8 rfl rfl ?_
    refine mv_iconst (v := 4) d_Reader_openBracket_9 (by decide) ?_
    obtain ⟨_, b21, -⟩ := I0.1 _ _ h_o0
    refine mv_callV (kc' := 0) (ks' := 0) (As := [.int 4]) (st9 := [.int 4, .ref o0]) d_Reader_openBracket_10 lV_Reader_56 b21 rfl (tc_Reader_refuse (d := d) (x9 := x9) (o0 := o0) (x1 := 4) h_o0 I0.start) rfl (Nat.le_of_ble_eq_true rfl) (Nat.le_of_ble_eq_true rfl) (Nat.le_of_ble_eq_true rfl) (hst := rfl) (fun b15r M16 n17 b15 => ?_)
    obtain ⟨T18, J19, rfl⟩ := b15
    have I20 := I0.call J19 (tm_sub (by decide)) (Or.inl rfl)
    have t22 := J19.up h_o0
    have q23 := J19.keep h_o0 (by decide) hO
    exact mv_iret d_Reader_openBracket_13 rfl (by decide) ⟨_, I20, _, rfl, by decide, by decide, fun h => absurd h (by decide)⟩
def w_Reader_openBracket_q2 : List Nat := [901, 902, 909, 910, 911, 912, 913, 916]
theorem tc_Reader_openBracket_q2 {g : mj_G} {l : Launch} {d : Nat} {T0 : tm_H} {M0 : mj_M} {n0 x9 : Nat} {o0 : Nat} (h_o0 : T0 o0 = some (0, 9, 0)) {p : Int32} (hO : tm_at M0 o0 9 16 (.int p)) (hp : 2 ≤ p.toInt) (I0 : tm_I tm_FT (tm_in w_Reader_openBracket_q2) x9 T0 M0 n0 T0 M0 n0) : mj_Met g l kY_Reader_openBracket (d + 1) [.ref o0] M0 n0 0 0 (tm_Q tm_FT (tm_in w_Reader_openBracket_q2) x9 T0 M0 n0 (fun r _ M => ∃ v : Int32, r = some (.int v) ∧ 0 ≤ v.toInt ∧ v.toInt ≤ 1 ∧ (v.toInt = 1 → p.toInt < 4 ∧ tm_at M o0 9 16 (.int (p + 1))))) := by
  refine mj_enter (by decide) (Nat.le_of_ble_eq_true rfl) ?_
  refine mv_aload_n d_Reader_openBracket_0 rfl rfl ?_
  refine tr_getK (k := 16) hO d_Reader_openBracket_1 f_Reader_73_9 ?_
  refine mv_iconst (v := 4) d_Reader_openBracket_4 (by decide) ?_
  have := mz_hi p
  refine mv_icmp_ltZ (tgt := 14) (a := p.toInt) (b := 4) d_Reader_openBracket_5 (by decide) rfl (by decide) (fun b1 => ?_) (fun b1 => ?_)
  · refine mv_aload_n d_Reader_openBracket_14 rfl rfl ?_
    refine mv_dup d_Reader_openBracket_15 rfl ?_
    refine tr_getK (k := 16) hO d_Reader_openBracket_16 f_Reader_73_9 ?_
    refine mv_iconst (v := 1) d_Reader_openBracket_19 (by decide) ?_
    refine mv_iadd d_Reader_openBracket_20 ?_
    refine tr_putK tm_okF I0 h_o0 (k := 16) rfl ⟨_, rfl⟩ (Or.inl (by decide)) d_Reader_openBracket_21 p_Reader_73_9 rfl rfl (fun M2 I3 q4 K5 => ?_)
    refine mv_aload_n d_Reader_openBracket_24 rfl rfl ?_
    obtain ⟨_, b12, -⟩ := I3.1 _ _ h_o0
    refine mv_callV (kc' := 0) (ks' := 0) (As := []) (st9 := [.ref o0]) d_Reader_openBracket_25 lV_Reader_82 b12 rfl (tc_Reader_advance (d := d) (x9 := x9) (o0 := o0) h_o0 I3.start) rfl (Nat.le_of_ble_eq_true rfl) (Nat.le_of_ble_eq_true rfl) (Nat.le_of_ble_eq_true rfl) (hst := rfl) (fun b6r M7 n8 b6 => ?_)
    obtain ⟨T9, J10, rfl⟩ := b6
    have I11 := I3.call J10 (tm_sub (by decide)) (Or.inl rfl)
    have t13 := J10.up h_o0
    have q14 := J10.keep h_o0 (by decide) q4
    refine mv_iconst (v := 1) d_Reader_openBracket_28 (by decide) ?_
    exact mv_iret d_Reader_openBracket_29 rfl (by decide) ⟨_, I11, _, rfl, by decide, by decide, fun _ => ⟨by omega, q14⟩⟩
  · refine mv_aload_n d_Reader_openBracket_8 rfl rfl ?_
    refine mv_iconst (v := 4) d_Reader_openBracket_9 (by decide) ?_
    obtain ⟨_, b21, -⟩ := I0.1 _ _ h_o0
    refine mv_callV (kc' := 0) (ks' := 0) (As := [.int 4]) (st9 := [.int 4, .ref o0]) d_Reader_openBracket_10 lV_Reader_56 b21 rfl (tc_Reader_refuse (d := d) (x9 := x9) (o0 := o0) (x1 := 4) h_o0 I0.start) rfl (Nat.le_of_ble_eq_true rfl) (Nat.le_of_ble_eq_true rfl) (Nat.le_of_ble_eq_true rfl) (hst := rfl) (fun b15r M16 n17 b15 => ?_)
    obtain ⟨T18, J19, rfl⟩ := b15
    have I20 := I0.call J19 (tm_sub (by decide)) (Or.inl rfl)
    have t22 := J19.up h_o0
    have q23 := J19.keep h_o0 (by decide) hO
    exact mv_iret d_Reader_openBracket_13 rfl (by decide) ⟨_, I20, _, rfl, by decide, by decide, fun h => absurd h (by decide)⟩
def w_Reader_openBracket_q1 : List Nat := [901, 902, 909, 910, 911, 912, 913, 916]
theorem tc_Reader_openBracket_q1 {g : mj_G} {l : Launch} {d : Nat} {T0 : tm_H} {M0 : mj_M} {n0 x9 : Nat} {o0 : Nat} (h_o0 : T0 o0 = some (0, 9, 0)) {p : Int32} (hO : tm_at M0 o0 9 16 (.int p)) (hp : 3 ≤ p.toInt) (I0 : tm_I tm_FT (tm_in w_Reader_openBracket_q1) x9 T0 M0 n0 T0 M0 n0) : mj_Met g l kY_Reader_openBracket (d + 1) [.ref o0] M0 n0 0 0 (tm_Q tm_FT (tm_in w_Reader_openBracket_q1) x9 T0 M0 n0 (fun r _ M => ∃ v : Int32, r = some (.int v) ∧ 0 ≤ v.toInt ∧ v.toInt ≤ 1 ∧ (v.toInt = 1 → p.toInt < 4 ∧ tm_at M o0 9 16 (.int (p + 1))))) := by
  refine mj_enter (by decide) (Nat.le_of_ble_eq_true rfl) ?_
  refine mv_aload_n d_Reader_openBracket_0 rfl rfl ?_
  refine tr_getK (k := 16) hO d_Reader_openBracket_1 f_Reader_73_9 ?_
  refine mv_iconst (v := 4) d_Reader_openBracket_4 (by decide) ?_
  have := mz_hi p
  refine mv_icmp_ltZ (tgt := 14) (a := p.toInt) (b := 4) d_Reader_openBracket_5 (by decide) rfl (by decide) (fun b1 => ?_) (fun b1 => ?_)
  · refine mv_aload_n d_Reader_openBracket_14 rfl rfl ?_
    refine mv_dup d_Reader_openBracket_15 rfl ?_
    refine tr_getK (k := 16) hO d_Reader_openBracket_16 f_Reader_73_9 ?_
    refine mv_iconst (v := 1) d_Reader_openBracket_19 (by decide) ?_
    refine mv_iadd d_Reader_openBracket_20 ?_
    refine tr_putK tm_okF I0 h_o0 (k := 16) rfl ⟨_, rfl⟩ (Or.inl (by decide)) d_Reader_openBracket_21 p_Reader_73_9 rfl rfl (fun M2 I3 q4 K5 => ?_)
    refine mv_aload_n d_Reader_openBracket_24 rfl rfl ?_
    obtain ⟨_, b12, -⟩ := I3.1 _ _ h_o0
    refine mv_callV (kc' := 0) (ks' := 0) (As := []) (st9 := [.ref o0]) d_Reader_openBracket_25 lV_Reader_82 b12 rfl (tc_Reader_advance (d := d) (x9 := x9) (o0 := o0) h_o0 I3.start) rfl (Nat.le_of_ble_eq_true rfl) (Nat.le_of_ble_eq_true rfl) (Nat.le_of_ble_eq_true rfl) (hst := rfl) (fun b6r M7 n8 b6 => ?_)
    obtain ⟨T9, J10, rfl⟩ := b6
    have I11 := I3.call J10 (tm_sub (by decide)) (Or.inl rfl)
    have t13 := J10.up h_o0
    have q14 := J10.keep h_o0 (by decide) q4
    refine mv_iconst (v := 1) d_Reader_openBracket_28 (by decide) ?_
    exact mv_iret d_Reader_openBracket_29 rfl (by decide) ⟨_, I11, _, rfl, by decide, by decide, fun _ => ⟨by omega, q14⟩⟩
  · refine mv_aload_n d_Reader_openBracket_8 rfl rfl ?_
    refine mv_iconst (v := 4) d_Reader_openBracket_9 (by decide) ?_
    obtain ⟨_, b21, -⟩ := I0.1 _ _ h_o0
    refine mv_callV (kc' := 0) (ks' := 0) (As := [.int 4]) (st9 := [.int 4, .ref o0]) d_Reader_openBracket_10 lV_Reader_56 b21 rfl (tc_Reader_refuse (d := d) (x9 := x9) (o0 := o0) (x1 := 4) h_o0 I0.start) rfl (Nat.le_of_ble_eq_true rfl) (Nat.le_of_ble_eq_true rfl) (Nat.le_of_ble_eq_true rfl) (hst := rfl) (fun b15r M16 n17 b15 => ?_)
    obtain ⟨T18, J19, rfl⟩ := b15
    have I20 := I0.call J19 (tm_sub (by decide)) (Or.inl rfl)
    have t22 := J19.up h_o0
    have q23 := J19.keep h_o0 (by decide) hO
    exact mv_iret d_Reader_openBracket_13 rfl (by decide) ⟨_, I20, _, rfl, by decide, by decide, fun h => absurd h (by decide)⟩
def w_Reader_openBracket_q0 : List Nat := [901, 902, 909, 910, 911, 912, 913, 916]
theorem tc_Reader_openBracket_q0 {g : mj_G} {l : Launch} {d : Nat} {T0 : tm_H} {M0 : mj_M} {n0 x9 : Nat} {o0 : Nat} (h_o0 : T0 o0 = some (0, 9, 0)) {p : Int32} (hO : tm_at M0 o0 9 16 (.int p)) (hp : 4 ≤ p.toInt) (I0 : tm_I tm_FT (tm_in w_Reader_openBracket_q0) x9 T0 M0 n0 T0 M0 n0) : mj_Met g l kY_Reader_openBracket (d + 1) [.ref o0] M0 n0 0 0 (tm_Q tm_FT (tm_in w_Reader_openBracket_q0) x9 T0 M0 n0 (fun r _ M => ∃ v : Int32, r = some (.int v) ∧ 0 ≤ v.toInt ∧ v.toInt ≤ 1 ∧ (v.toInt = 1 → p.toInt < 4 ∧ tm_at M o0 9 16 (.int (p + 1))))) := by
  refine mj_enter (by decide) (Nat.le_of_ble_eq_true rfl) ?_
  refine mv_aload_n d_Reader_openBracket_0 rfl rfl ?_
  refine tr_getK (k := 16) hO d_Reader_openBracket_1 f_Reader_73_9 ?_
  refine mv_iconst (v := 4) d_Reader_openBracket_4 (by decide) ?_
  have := mz_hi p
  refine mv_icmp_ltZ (tgt := 14) (a := p.toInt) (b := 4) d_Reader_openBracket_5 (by decide) rfl (by decide) (fun b1 => ?_) (fun b1 => ?_)
  · refine mv_aload_n d_Reader_openBracket_14 rfl rfl ?_
    refine mv_dup d_Reader_openBracket_15 rfl ?_
    refine tr_getK (k := 16) hO d_Reader_openBracket_16 f_Reader_73_9 ?_
    refine mv_iconst (v := 1) d_Reader_openBracket_19 (by decide) ?_
    refine mv_iadd d_Reader_openBracket_20 ?_
    refine tr_putK tm_okF I0 h_o0 (k := 16) rfl ⟨_, rfl⟩ (Or.inl (by decide)) d_Reader_openBracket_21 p_Reader_73_9 rfl rfl (fun M2 I3 q4 K5 => ?_)
    refine mv_aload_n d_Reader_openBracket_24 rfl rfl ?_
    obtain ⟨_, b12, -⟩ := I3.1 _ _ h_o0
    refine mv_callV (kc' := 0) (ks' := 0) (As := []) (st9 := [.ref o0]) d_Reader_openBracket_25 lV_Reader_82 b12 rfl (tc_Reader_advance (d := d) (x9 := x9) (o0 := o0) h_o0 I3.start) rfl (Nat.le_of_ble_eq_true rfl) (Nat.le_of_ble_eq_true rfl) (Nat.le_of_ble_eq_true rfl) (hst := rfl) (fun b6r M7 n8 b6 => ?_)
    obtain ⟨T9, J10, rfl⟩ := b6
    have I11 := I3.call J10 (tm_sub (by decide)) (Or.inl rfl)
    have t13 := J10.up h_o0
    have q14 := J10.keep h_o0 (by decide) q4
    refine mv_iconst (v := 1) d_Reader_openBracket_28 (by decide) ?_
    exact mv_iret d_Reader_openBracket_29 rfl (by decide) ⟨_, I11, _, rfl, by decide, by decide, fun _ => ⟨by omega, q14⟩⟩
  · refine mv_aload_n d_Reader_openBracket_8 rfl rfl ?_
    refine mv_iconst (v := 4) d_Reader_openBracket_9 (by decide) ?_
    obtain ⟨_, b21, -⟩ := I0.1 _ _ h_o0
    refine mv_callV (kc' := 0) (ks' := 0) (As := [.int 4]) (st9 := [.int 4, .ref o0]) d_Reader_openBracket_10 lV_Reader_56 b21 rfl (tc_Reader_refuse (d := d) (x9 := x9) (o0 := o0) (x1 := 4) h_o0 I0.start) rfl (Nat.le_of_ble_eq_true rfl) (Nat.le_of_ble_eq_true rfl) (Nat.le_of_ble_eq_true rfl) (hst := rfl) (fun b15r M16 n17 b15 => ?_)
    obtain ⟨T18, J19, rfl⟩ := b15
    have I20 := I0.call J19 (tm_sub (by decide)) (Or.inl rfl)
    have t22 := J19.up h_o0
    have q23 := J19.keep h_o0 (by decide) hO
    exact mv_iret d_Reader_openBracket_13 rfl (by decide) ⟨_, I20, _, rfl, by decide, by decide, fun h => absurd h (by decide)⟩
theorem d_Reader_factor_82 : decode kY_Reader_factor.2.1 82 = .ok (.aload_n 0, 1) := by decide +kernel
theorem d_Reader_factor_83 : decode kY_Reader_factor.2.1 83 = .ok (.iconst 1, 1) := by decide +kernel
theorem d_Reader_factor_84 : decode kY_Reader_factor.2.1 84 = .ok (.invokevirtual 56, 3) := by decide +kernel
theorem d_Reader_factor_87 : decode kY_Reader_factor.2.1 87 = .ok (.ireturn, 1) := by decide +kernel
theorem d_Reader_factor_40 : decode kY_Reader_factor.2.1 40 = .ok (.aload_n 0, 1) := by decide +kernel
theorem d_Reader_factor_41 : decode kY_Reader_factor.2.1 41 = .ok (.iconst 0, 1) := by decide +kernel
theorem d_Reader_factor_42 : decode kY_Reader_factor.2.1 42 = .ok (.aload_n 0, 1) := by decide +kernel
theorem d_Reader_factor_43 : decode kY_Reader_factor.2.1 43 = .ok (.getfield 67, 3) := by decide +kernel
theorem f_Reader_67_9 : mj_fl "TrustDesk$Reader" 67 9 15 := ⟨kR_Reader, kF_Reader, 19, "TrustDesk$Reader", rfl, kg_9, by decide, (mj_in1 (List.mem_of_getElem? (i := 87) (by decide +kernel)) rfl), Or.inl rfl⟩
theorem d_Reader_factor_46 : decode kY_Reader_factor.2.1 46 = .ok (.invokevirtual 85, 3) := by decide +kernel
theorem d_Reader_factor_49 : decode kY_Reader_factor.2.1 49 = .ok (.istore_n 1, 1) := by decide +kernel
theorem d_Reader_factor_50 : decode kY_Reader_factor.2.1 50 = .ok (.iload_n 1, 1) := by decide +kernel
theorem d_Reader_factor_51 : decode kY_Reader_factor.2.1 51 = .ok (.iconst (-1), 1) := by decide +kernel
theorem d_Reader_factor_52 : decode kY_Reader_factor.2.1 52 = .ok (.if_icmp .ne 9, 3) := by decide +kernel
theorem d_Reader_factor_61 : decode kY_Reader_factor.2.1 61 = .ok (.aload_n 0, 1) := by decide +kernel
theorem d_Reader_factor_62 : decode kY_Reader_factor.2.1 62 = .ok (.iconst 1, 1) := by decide +kernel
theorem d_Reader_factor_63 : decode kY_Reader_factor.2.1 63 = .ok (.iload_n 1, 1) := by decide +kernel
theorem d_Reader_factor_64 : decode kY_Reader_factor.2.1 64 = .ok (.invokevirtual 203, 3) := by decide +kernel
abbrev kY_Reader_emit : mj_Y := (⟨"TrustDesk$Reader", "emit", "(II)V"⟩, prog_10_method_23_code, 3, (Option.none : Option Jvm.ClassFile.FieldType))
theorem d_Reader_emit_0 : decode kY_Reader_emit.2.1 0 = .ok (.aload_n 0, 1) := by decide +kernel
theorem d_Reader_emit_1 : decode kY_Reader_emit.2.1 1 = .ok (.getfield 118, 3) := by decide +kernel
theorem f_Reader_118_9 : mj_fl "TrustDesk$Reader" 118 9 18 := ⟨kR_Reader, kF_Reader, 19, "TrustDesk$Reader", rfl, kg_9, by decide, (mj_in1 (List.mem_of_getElem? (i := 90) (by decide +kernel)) rfl), Or.inl rfl⟩
theorem d_Reader_emit_4 : decode kY_Reader_emit.2.1 4 = .ok (.ifCond .lt 38, 3) := by decide +kernel
theorem d_Reader_emit_42 : decode kY_Reader_emit.2.1 42 = .ok (.return_, 1) := by decide +kernel
theorem d_Reader_emit_7 : decode kY_Reader_emit.2.1 7 = .ok (.aload_n 0, 1) := by decide +kernel
theorem d_Reader_emit_8 : decode kY_Reader_emit.2.1 8 = .ok (.getfield 118, 3) := by decide +kernel
theorem d_Reader_emit_11 : decode kY_Reader_emit.2.1 11 = .ok (.sipush 400, 3) := by decide +kernel
theorem d_Reader_emit_14 : decode kY_Reader_emit.2.1 14 = .ok (.if_icmp .ge 28, 3) := by decide +kernel
theorem d_Reader_emit_17 : decode kY_Reader_emit.2.1 17 = .ok (.aload_n 0, 1) := by decide +kernel
theorem d_Reader_emit_18 : decode kY_Reader_emit.2.1 18 = .ok (.getfield 31, 3) := by decide +kernel
theorem f_Reader_31_9 : mj_fl "TrustDesk$Reader" 31 9 17 := ⟨kR_Reader, kF_Reader, 19, "TrustDesk$Reader", rfl, kg_9, by decide, (mj_in1 (List.mem_of_getElem? (i := 89) (by decide +kernel)) rfl), Or.inl rfl⟩
theorem d_Reader_emit_21 : decode kY_Reader_emit.2.1 21 = .ok (.aload_n 0, 1) := by decide +kernel
theorem d_Reader_emit_22 : decode kY_Reader_emit.2.1 22 = .ok (.getfield 118, 3) := by decide +kernel
theorem d_Reader_emit_25 : decode kY_Reader_emit.2.1 25 = .ok (.iload_n 2, 1) := by decide +kernel
theorem d_Reader_emit_26 : decode kY_Reader_emit.2.1 26 = .ok (.bipush 16, 2) := by decide +kernel
theorem d_Reader_emit_28 : decode kY_Reader_emit.2.1 28 = .ok (.imul, 1) := by decide +kernel
theorem d_Reader_emit_29 : decode kY_Reader_emit.2.1 29 = .ok (.iload_n 1, 1) := by decide +kernel
theorem d_Reader_emit_30 : decode kY_Reader_emit.2.1 30 = .ok (.iadd, 1) := by decide +kernel
theorem d_Reader_emit_31 : decode kY_Reader_emit.2.1 31 = .ok (.iastore, 1) := by decide +kernel
theorem d_Reader_emit_32 : decode kY_Reader_emit.2.1 32 = .ok (.aload_n 0, 1) := by decide +kernel
theorem d_Reader_emit_33 : decode kY_Reader_emit.2.1 33 = .ok (.dup, 1) := by decide +kernel
theorem d_Reader_emit_34 : decode kY_Reader_emit.2.1 34 = .ok (.getfield 118, 3) := by decide +kernel
theorem d_Reader_emit_37 : decode kY_Reader_emit.2.1 37 = .ok (.iconst 1, 1) := by decide +kernel
theorem d_Reader_emit_38 : decode kY_Reader_emit.2.1 38 = .ok (.iadd, 1) := by decide +kernel
theorem d_Reader_emit_39 : decode kY_Reader_emit.2.1 39 = .ok (.putfield 118, 3) := by decide +kernel
def w_Reader_emit : List Nat := [918, 967]
theorem tc_Reader_emit {g : mj_G} {l : Launch} {d : Nat} {T0 : tm_H} {M0 : mj_M} {n0 x9 : Nat} {o0 : Nat} {x1 : Int32} {x2 : Int32} (h_o0 : T0 o0 = some (0, 9, 0)) (I0 : tm_I tm_FT (tm_in w_Reader_emit) x9 T0 M0 n0 T0 M0 n0) : mj_Met g l kY_Reader_emit d [.ref o0, .int x1, .int x2] M0 n0 0 0 (tm_Q tm_FT (tm_in w_Reader_emit) x9 T0 M0 n0 (fun r _ _ => r = none)) := by
  refine mj_enter (by decide) (Nat.le_of_ble_eq_true rfl) ?_
  refine mv_aload_n d_Reader_emit_0 rfl rfl ?_
  obtain ⟨v2, q1⟩ := tm_atI I0 h_o0 (k := 18) rfl
  refine tr_getK q1 d_Reader_emit_1 f_Reader_118_9 ?_
  have := mz_hi v2
  refine mv_if_ltZ (tgt := 42) (a := v2.toInt) d_Reader_emit_4 (by decide) rfl (fun b3 => ?_) (fun b3 => ?_)
  · exact mv_vret d_Reader_emit_42 rfl ⟨_, I0, rfl⟩
  · refine mv_aload_n d_Reader_emit_7 rfl rfl ?_
    refine tr_getK (k := 18) q1 d_Reader_emit_8 f_Reader_118_9 ?_
    refine mv_sipush (v := 400) d_Reader_emit_11 (by decide) ?_
    have := mz_hi v2
    refine mv_icmp_geZ (tgt := 42) (a := v2.toInt) (b := 400) d_Reader_emit_14 (by decide) rfl (by decide) (fun b4 => ?_) (fun b4 => ?_)
    · exact mv_vret d_Reader_emit_42 rfl ⟨_, I0, rfl⟩
    · refine mv_aload_n d_Reader_emit_17 rfl rfl ?_
      obtain ⟨a6, q5, t_a6⟩ := tm_atR I0 h_o0 (k := 17) rfl
      refine tr_getK q5 d_Reader_emit_18 f_Reader_31_9 ?_
      refine mv_aload_n d_Reader_emit_21 rfl rfl ?_
      refine tr_getK (k := 18) q1 d_Reader_emit_22 f_Reader_118_9 ?_
      refine mv_iload_n d_Reader_emit_25 rfl rfl ?_
      refine mv_bipush (v := 16) d_Reader_emit_26 (by decide) ?_
      refine mv_imul d_Reader_emit_28 ?_
      refine mv_iload_n d_Reader_emit_29 rfl rfl ?_
      refine mv_iadd d_Reader_emit_30 ?_
      refine tr_iastK tm_okF I0 t_a6 (by decide) (Or.inl (by decide)) d_Reader_emit_31 (vp_in_iff.mpr (by omega)) (fun M7 I8 K9 => ?_)
      refine mv_aload_n d_Reader_emit_32 rfl rfl ?_
      refine mv_dup d_Reader_emit_33 rfl ?_
      refine tr_getK (k := 18) (K9 _ 9 18 _ q1) d_Reader_emit_34 f_Reader_118_9 ?_
      refine mv_iconst (v := 1) d_Reader_emit_37 (by decide) ?_
      refine mv_iadd d_Reader_emit_38 ?_
      refine tr_putK tm_okF I8 h_o0 (k := 18) rfl ⟨_, rfl⟩ (Or.inl (by decide)) d_Reader_emit_39 p_Reader_118_9 rfl rfl (fun M10 I11 q12 K13 => ?_)
      exact mv_vret d_Reader_emit_42 rfl ⟨_, I11, rfl⟩
theorem lV_Reader_203 : mj_lV "TrustDesk$Reader" 203 kY_Reader_emit 2 := ⟨⟨(mj_in1 (List.mem_of_getElem? (i := 515) (by decide +kernel)) rfl), (mj_in1 (List.mem_of_getElem? (i := 3) (by decide +kernel)) rfl), (mj_in1 (List.mem_of_getElem? (i := 518) (by decide +kernel)) rfl), by decide, rfl, by decide⟩, (mj_in1 (List.mem_of_getElem? (i := 517) (by decide +kernel)) rfl), (mj_in (List.mem_append_left _ (List.mem_of_getElem? (i := 27) (by decide +kernel))) rfl)⟩
theorem d_Reader_factor_67 : decode kY_Reader_factor.2.1 67 = .ok (.aload_n 0, 1) := by decide +kernel
theorem d_Reader_factor_68 : decode kY_Reader_factor.2.1 68 = .ok (.invokevirtual 82, 3) := by decide +kernel
theorem d_Reader_factor_71 : decode kY_Reader_factor.2.1 71 = .ok (.iconst 1, 1) := by decide +kernel
theorem d_Reader_factor_72 : decode kY_Reader_factor.2.1 72 = .ok (.ireturn, 1) := by decide +kernel
theorem d_Reader_factor_55 : decode kY_Reader_factor.2.1 55 = .ok (.aload_n 0, 1) := by decide +kernel
theorem d_Reader_factor_56 : decode kY_Reader_factor.2.1 56 = .ok (.iconst 3, 1) := by decide +kernel
theorem d_Reader_factor_57 : decode kY_Reader_factor.2.1 57 = .ok (.invokevirtual 56, 3) := by decide +kernel
theorem d_Reader_factor_60 : decode kY_Reader_factor.2.1 60 = .ok (.ireturn, 1) := by decide +kernel
theorem d_Reader_factor_8 : decode kY_Reader_factor.2.1 8 = .ok (.aload_n 0, 1) := by decide +kernel
theorem d_Reader_factor_9 : decode kY_Reader_factor.2.1 9 = .ok (.iconst 0, 1) := by decide +kernel
theorem d_Reader_factor_10 : decode kY_Reader_factor.2.1 10 = .ok (.sipush 9999, 3) := by decide +kernel
theorem d_Reader_factor_13 : decode kY_Reader_factor.2.1 13 = .ok (.invokevirtual 107, 3) := by decide +kernel
theorem d_Reader_factor_16 : decode kY_Reader_factor.2.1 16 = .ok (.ifCond .ne 5, 3) := by decide +kernel
theorem d_Reader_factor_21 : decode kY_Reader_factor.2.1 21 = .ok (.aload_n 0, 1) := by decide +kernel
theorem d_Reader_factor_22 : decode kY_Reader_factor.2.1 22 = .ok (.iconst 0, 1) := by decide +kernel
theorem d_Reader_factor_23 : decode kY_Reader_factor.2.1 23 = .ok (.aload_n 0, 1) := by decide +kernel
theorem d_Reader_factor_24 : decode kY_Reader_factor.2.1 24 = .ok (.getfield 111, 3) := by decide +kernel
theorem d_Reader_factor_27 : decode kY_Reader_factor.2.1 27 = .ok (.invokevirtual 203, 3) := by decide +kernel
theorem d_Reader_factor_30 : decode kY_Reader_factor.2.1 30 = .ok (.iconst 1, 1) := by decide +kernel
theorem d_Reader_factor_31 : decode kY_Reader_factor.2.1 31 = .ok (.ireturn, 1) := by decide +kernel
theorem d_Reader_factor_19 : decode kY_Reader_factor.2.1 19 = .ok (.iconst 0, 1) := by decide +kernel
theorem d_Reader_factor_20 : decode kY_Reader_factor.2.1 20 = .ok (.ireturn, 1) := by decide +kernel
def w_Reader_factor_q0 : List Nat := [901, 902, 909, 910, 911, 912, 913, 914, 916, 918, 967]
theorem tc_Reader_factor_q0 {g : mj_G} {l : Launch} {d : Nat} {T0 : tm_H} {M0 : mj_M} {n0 x9 : Nat} {o0 : Nat} (h_o0 : T0 o0 = some (0, 9, 0)) {p : Int32} (hO : tm_at M0 o0 9 16 (.int p)) (hp : 4 ≤ p.toInt) (I0 : tm_I tm_FT (tm_in w_Reader_factor_q0) x9 T0 M0 n0 T0 M0 n0) : mj_Met g l kY_Reader_factor (d + 2) [.ref o0] M0 n0 0 0 (tm_Q tm_FT (tm_in w_Reader_factor_q0) x9 T0 M0 n0 (fun r _ M => ∃ v : Int32, r = some (.int v) ∧ 0 ≤ v.toInt ∧ v.toInt ≤ 1 ∧ (v.toInt = 1 → tm_at M o0 9 16 (.int p)))) := by
  refine mj_enter (by decide) (Nat.le_of_ble_eq_true rfl) ?_
  refine mv_aload_n d_Reader_factor_0 rfl rfl ?_
  obtain ⟨v2, q1⟩ := tm_atI I0 h_o0 (k := 10) rfl
  refine tr_getK q1 d_Reader_factor_1 f_Reader_41_9 ?_
  refine mv_iconst (v := 2) d_Reader_factor_4 (by decide) ?_
  have := mz_hi v2
  refine mv_icmp_neZ (tgt := 32) (a := v2.toInt) (b := 2) d_Reader_factor_5 (by decide) rfl (by decide) (fun b3 => ?_) (fun b3 => ?_)
  · refine mv_aload_n d_Reader_factor_32 rfl rfl ?_
    refine tr_getK (k := 10) q1 d_Reader_factor_33 f_Reader_41_9 ?_
    refine mv_iconst (v := 1) d_Reader_factor_36 (by decide) ?_
    have := mz_hi v2
    refine mv_icmp_neZ (tgt := 73) (a := v2.toInt) (b := 1) d_Reader_factor_37 (by decide) rfl (by decide) (fun b4 => ?_) (fun b4 => ?_)
    · refine mv_aload_n d_Reader_factor_73 rfl rfl ?_
      refine mv_bipush (v := 40) d_Reader_factor_74 (by decide) ?_
      obtain ⟨_, b11, -⟩ := I0.1 _ _ h_o0
      refine mv_callV (kc' := 0) (ks' := 0) (As := [.int 40]) (st9 := [.int 40, .ref o0]) d_Reader_factor_76 lV_Reader_209 b11 rfl (tc_Reader_isSign (d := (d + 1)) (x9 := x9) (o0 := o0) (x1 := 40) h_o0 I0.start) rfl (Nat.le_of_ble_eq_true rfl) (Nat.le_of_ble_eq_true rfl) (Nat.le_of_ble_eq_true rfl) (hst := rfl) (fun b5r M6 n7 b5 => ?_)
      obtain ⟨T8, J9, v12, rfl, b13, b14⟩ := b5
      have I10 := I0.call J9 (tm_sub (by decide)) (Or.inl rfl)
      have t15 := J9.up h_o0
      have q16 := J9.keep h_o0 (by decide) hO
      have q17 := J9.keep h_o0 (by decide) q1
      have := mz_hi v12
      refine mv_if_neZ (tgt := 88) (a := v12.toInt) d_Reader_factor_79 (by decide) rfl (fun b18 => ?_) (fun b18 => ?_)
      · refine mv_aload_n d_Reader_factor_88 rfl rfl ?_
        obtain ⟨_, b25, -⟩ := I10.1 _ _ t15
        refine mv_callV (kc' := 0) (ks' := 0) (As := []) (st9 := [.ref o0]) d_Reader_factor_89 lV_Reader_212 b25 rfl (tc_Reader_openBracket_q0 (d := d) (x9 := x9) (o0 := o0) t15 (p := p) q16 (by omega) I10.start) rfl (Nat.le_of_ble_eq_true rfl) (Nat.le_of_ble_eq_true rfl) (Nat.le_of_ble_eq_true rfl) (hst := rfl) (fun b19r M20 n21 b19 => ?_)
        obtain ⟨T22, J23, v26, rfl, b27, b28, o29⟩ := b19
        have I24 := I10.call J23 (tm_sub (by decide)) (Or.inl rfl)
        have t30 := J23.up t15
        have := mz_hi v26
        refine mv_if_eqZ (tgt := 102) (a := v26.toInt) d_Reader_factor_92 (by decide) rfl (fun b31 => ?_) (fun b31 => ?_)
        · refine mv_iconst (v := 0) d_Reader_factor_102 (by decide) ?_
          exact mv_iret d_Reader_factor_103 rfl (by decide) ⟨_, I24, _, rfl, by decide, by decide, fun h => absurd h (by decide)⟩
        · have := (o29 (by omega)).1
          exfalso
          omega
      · refine mv_aload_n d_Reader_factor_82 rfl rfl ?_
        refine mv_iconst (v := 1) d_Reader_factor_83 (by decide) ?_
        obtain ⟨_, b39, -⟩ := I10.1 _ _ t15
        refine mv_callV (kc' := 0) (ks' := 0) (As := [.int 1]) (st9 := [.int 1, .ref o0]) d_Reader_factor_84 lV_Reader_56 b39 rfl (tc_Reader_refuse (d := (d + 1)) (x9 := x9) (o0 := o0) (x1 := 1) t15 I10.start) rfl (Nat.le_of_ble_eq_true rfl) (Nat.le_of_ble_eq_true rfl) (Nat.le_of_ble_eq_true rfl) (hst := rfl) (fun b33r M34 n35 b33 => ?_)
        obtain ⟨T36, J37, rfl⟩ := b33
        have I38 := I10.call J37 (tm_sub (by decide)) (Or.inl rfl)
        have t40 := J37.up t15
        have q41 := J37.keep t15 (by decide) q16
        have q42 := J37.keep t15 (by decide) q17
        exact mv_iret d_Reader_factor_87 rfl (by decide) ⟨_, I38, _, rfl, by decide, by decide, fun h => absurd h (by decide)⟩
    · refine mv_aload_n d_Reader_factor_40 rfl rfl ?_
      refine mv_iconst (v := 0) d_Reader_factor_41 (by decide) ?_
      refine mv_aload_n d_Reader_factor_42 rfl rfl ?_
      obtain ⟨v44, q43⟩ := tm_atI I0 h_o0 (k := 15) rfl
      refine tr_getK q43 d_Reader_factor_43 f_Reader_67_9 ?_
      obtain ⟨_, b51, -⟩ := I0.1 _ _ h_o0
      refine mv_callV (kc' := 0) (ks' := 0) (As := [.int 0, .int v44]) (st9 := [.int v44, .int 0, .ref o0]) d_Reader_factor_46 lV_Reader_85 b51 rfl (tc_Reader_valueAmong (d := (d + 1)) (x9 := x9) (o0 := o0) (x1 := 0) (x2 := v44) h_o0 I0.start) rfl (Nat.le_of_ble_eq_true rfl) (Nat.le_of_ble_eq_true rfl) (Nat.le_of_ble_eq_true rfl) (hst := rfl) (fun b45r M46 n47 b45 => ?_)
      obtain ⟨T48, J49, v52, rfl⟩ := b45
      have I50 := I0.call J49 (tm_sub (by decide)) (Or.inl rfl)
      have t53 := J49.up h_o0
      have q54 := J49.keep h_o0 (by decide) hO
      have q55 := J49.keep h_o0 (by decide) q1
      have q56 := J49.keep h_o0 (by decide) q43
      refine mv_istore_n (lv' := [(1, .int v52), (0, .ref o0)]) d_Reader_factor_49 rfl (by decide) rfl ?_
      refine mv_iload_n d_Reader_factor_50 rfl rfl ?_
      refine mv_iconst (v := (-1)) d_Reader_factor_51 (by decide) ?_
      have := mz_hi v52
      refine mv_icmp_neZ (tgt := 61) (a := v52.toInt) (b := (-1)) d_Reader_factor_52 (by decide) rfl (by decide) (fun b57 => ?_) (fun b57 => ?_)
      · refine mv_aload_n d_Reader_factor_61 rfl rfl ?_
        refine mv_iconst (v := 1) d_Reader_factor_62 (by decide) ?_
        refine mv_iload_n d_Reader_factor_63 rfl rfl ?_
        obtain ⟨_, b64, -⟩ := I50.1 _ _ t53
        refine mv_callV (kc' := 0) (ks' := 0) (As := [.int 1, .int v52]) (st9 := [.int v52, .int 1, .ref o0]) d_Reader_factor_64 lV_Reader_203 b64 rfl (tc_Reader_emit (d := (d + 1)) (x9 := x9) (o0 := o0) (x1 := 1) (x2 := v52) t53 I50.start) rfl (Nat.le_of_ble_eq_true rfl) (Nat.le_of_ble_eq_true rfl) (Nat.le_of_ble_eq_true rfl) (hst := rfl) (fun b58r M59 n60 b58 => ?_)
        obtain ⟨T61, J62, rfl⟩ := b58
        have I63 := I50.call J62 (tm_sub (by decide)) (Or.inl rfl)
        have t65 := J62.up t53
        have q66 := J62.keep t53 (by decide) q54
        have q67 := J62.keep t53 (by decide) q55
        have q68 := J62.keep t53 (by decide) q56
        refine mv_aload_n d_Reader_factor_67 rfl rfl ?_
        obtain ⟨_, b75, -⟩ := I63.1 _ _ t65
        refine mv_callV (kc' := 0) (ks' := 0) (As := []) (st9 := [.ref o0]) d_Reader_factor_68 lV_Reader_82 b75 rfl (tc_Reader_advance (d := (d + 1)) (x9 := x9) (o0 := o0) t65 I63.start) rfl (Nat.le_of_ble_eq_true rfl) (Nat.le_of_ble_eq_true rfl) (Nat.le_of_ble_eq_true rfl) (hst := rfl) (fun b69r M70 n71 b69 => ?_)
        obtain ⟨T72, J73, rfl⟩ := b69
        have I74 := I63.call J73 (tm_sub (by decide)) (Or.inl rfl)
        have t76 := J73.up t65
        have q77 := J73.keep t65 (by decide) q66
        have q78 := J73.keep t65 (by decide) q68
        refine mv_iconst (v := 1) d_Reader_factor_71 (by decide) ?_
        exact mv_iret d_Reader_factor_72 rfl (by decide) ⟨_, I74, _, rfl, by decide, by decide, fun _ => q77⟩
      · refine mv_aload_n d_Reader_factor_55 rfl rfl ?_
        refine mv_iconst (v := 3) d_Reader_factor_56 (by decide) ?_
        obtain ⟨_, b85, -⟩ := I50.1 _ _ t53
        refine mv_callV (kc' := 0) (ks' := 0) (As := [.int 3]) (st9 := [.int 3, .ref o0]) d_Reader_factor_57 lV_Reader_56 b85 rfl (tc_Reader_refuse (d := (d + 1)) (x9 := x9) (o0 := o0) (x1 := 3) t53 I50.start) rfl (Nat.le_of_ble_eq_true rfl) (Nat.le_of_ble_eq_true rfl) (Nat.le_of_ble_eq_true rfl) (hst := rfl) (fun b79r M80 n81 b79 => ?_)
        obtain ⟨T82, J83, rfl⟩ := b79
        have I84 := I50.call J83 (tm_sub (by decide)) (Or.inl rfl)
        have t86 := J83.up t53
        have q87 := J83.keep t53 (by decide) q54
        have q88 := J83.keep t53 (by decide) q55
        have q89 := J83.keep t53 (by decide) q56
        exact mv_iret d_Reader_factor_60 rfl (by decide) ⟨_, I84, _, rfl, by decide, by decide, fun h => absurd h (by decide)⟩
  · refine mv_aload_n d_Reader_factor_8 rfl rfl ?_
    refine mv_iconst (v := 0) d_Reader_factor_9 (by decide) ?_
    refine mv_sipush (v := 9999) d_Reader_factor_10 (by decide) ?_
    obtain ⟨_, b96, -⟩ := I0.1 _ _ h_o0
    refine mv_callV (kc' := 0) (ks' := 0) (As := [.int 0, .int 9999]) (st9 := [.int 9999, .int 0, .ref o0]) d_Reader_factor_13 lV_Reader_107 b96 rfl (tc_Reader_numeral (d := d) (x9 := x9) (o0 := o0) (x1 := 0) (x2 := 9999) h_o0 I0.start) rfl (Nat.le_of_ble_eq_true rfl) (Nat.le_of_ble_eq_true rfl) (Nat.le_of_ble_eq_true rfl) (hst := rfl) (fun b90r M91 n92 b90 => ?_)
    obtain ⟨T93, J94, v97, rfl, b98, b99⟩ := b90
    have I95 := I0.call J94 (tm_sub (by decide)) (Or.inl rfl)
    have t100 := J94.up h_o0
    have q101 := J94.keep h_o0 (by decide) hO
    have := mz_hi v97
    refine mv_if_neZ (tgt := 21) (a := v97.toInt) d_Reader_factor_16 (by decide) rfl (fun b102 => ?_) (fun b102 => ?_)
    · refine mv_aload_n d_Reader_factor_21 rfl rfl ?_
      refine mv_iconst (v := 0) d_Reader_factor_22 (by decide) ?_
      refine mv_aload_n d_Reader_factor_23 rfl rfl ?_
      obtain ⟨v104, q103⟩ := tm_atI I95 t100 (k := 14) rfl
      refine tr_getK q103 d_Reader_factor_24 f_Reader_111_9 ?_
      obtain ⟨_, b111, -⟩ := I95.1 _ _ t100
      refine mv_callV (kc' := 0) (ks' := 0) (As := [.int 0, .int v104]) (st9 := [.int v104, .int 0, .ref o0]) d_Reader_factor_27 lV_Reader_203 b111 rfl (tc_Reader_emit (d := (d + 1)) (x9 := x9) (o0 := o0) (x1 := 0) (x2 := v104) t100 I95.start) rfl (Nat.le_of_ble_eq_true rfl) (Nat.le_of_ble_eq_true rfl) (Nat.le_of_ble_eq_true rfl) (hst := rfl) (fun b105r M106 n107 b105 => ?_)
      obtain ⟨T108, J109, rfl⟩ := b105
      have I110 := I95.call J109 (tm_sub (by decide)) (Or.inl rfl)
      have t112 := J109.up t100
      have q113 := J109.keep t100 (by decide) q101
      have q114 := J109.keep t100 (by decide) q103
      refine mv_iconst (v := 1) d_Reader_factor_30 (by decide) ?_
      exact mv_iret d_Reader_factor_31 rfl (by decide) ⟨_, I110, _, rfl, by decide, by decide, fun _ => q113⟩
    · refine mv_iconst (v := 0) d_Reader_factor_19 (by decide) ?_
      exact mv_iret d_Reader_factor_20 rfl (by decide) ⟨_, I95, _, rfl, by decide, by decide, fun h => absurd h (by decide)⟩
theorem lV_Reader_221 : mj_lV "TrustDesk$Reader" 221 kY_Reader_factor 0 := ⟨⟨(mj_in1 (List.mem_of_getElem? (i := 507) (by decide +kernel)) rfl), (mj_in1 (List.mem_of_getElem? (i := 3) (by decide +kernel)) rfl), (mj_in1 (List.mem_of_getElem? (i := 510) (by decide +kernel)) rfl), by decide, rfl, by decide⟩, (mj_in1 (List.mem_of_getElem? (i := 509) (by decide +kernel)) rfl), (mj_in (List.mem_append_left _ (List.mem_of_getElem? (i := 25) (by decide +kernel))) rfl)⟩
theorem d_Reader_product_4 : decode kY_Reader_product.2.1 4 = .ok (.ifCond .ne 5, 3) := by decide +kernel
theorem d_Reader_product_9 : decode kY_Reader_product.2.1 9 = .ok (.iconst 0, 1) := by decide +kernel
theorem d_Reader_product_10 : decode kY_Reader_product.2.1 10 = .ok (.istore_n 1, 1) := by decide +kernel
theorem d_Reader_product_11 : decode kY_Reader_product.2.1 11 = .ok (.iload_n 1, 1) := by decide +kernel
theorem d_Reader_product_12 : decode kY_Reader_product.2.1 12 = .ok (.sipush 400, 3) := by decide +kernel
theorem d_Reader_product_15 : decode kY_Reader_product.2.1 15 = .ok (.if_icmp .ge 37, 3) := by decide +kernel
theorem d_Reader_product_52 : decode kY_Reader_product.2.1 52 = .ok (.iconst 1, 1) := by decide +kernel
theorem d_Reader_product_53 : decode kY_Reader_product.2.1 53 = .ok (.ireturn, 1) := by decide +kernel
theorem d_Reader_product_18 : decode kY_Reader_product.2.1 18 = .ok (.aload_n 0, 1) := by decide +kernel
theorem d_Reader_product_19 : decode kY_Reader_product.2.1 19 = .ok (.bipush 42, 2) := by decide +kernel
theorem d_Reader_product_21 : decode kY_Reader_product.2.1 21 = .ok (.invokevirtual 209, 3) := by decide +kernel
theorem d_Reader_product_24 : decode kY_Reader_product.2.1 24 = .ok (.ifCond .eq 28, 3) := by decide +kernel
theorem d_Reader_product_27 : decode kY_Reader_product.2.1 27 = .ok (.aload_n 0, 1) := by decide +kernel
theorem d_Reader_product_28 : decode kY_Reader_product.2.1 28 = .ok (.invokevirtual 82, 3) := by decide +kernel
theorem d_Reader_product_31 : decode kY_Reader_product.2.1 31 = .ok (.aload_n 0, 1) := by decide +kernel
theorem d_Reader_product_32 : decode kY_Reader_product.2.1 32 = .ok (.invokevirtual 221, 3) := by decide +kernel
theorem d_Reader_product_35 : decode kY_Reader_product.2.1 35 = .ok (.ifCond .ne 5, 3) := by decide +kernel
theorem d_Reader_product_40 : decode kY_Reader_product.2.1 40 = .ok (.aload_n 0, 1) := by decide +kernel
theorem d_Reader_product_41 : decode kY_Reader_product.2.1 41 = .ok (.iconst 4, 1) := by decide +kernel
theorem d_Reader_product_42 : decode kY_Reader_product.2.1 42 = .ok (.iconst 0, 1) := by decide +kernel
theorem d_Reader_product_43 : decode kY_Reader_product.2.1 43 = .ok (.invokevirtual 203, 3) := by decide +kernel
theorem d_Reader_product_46 : decode kY_Reader_product.2.1 46 = .ok (.iinc 1 1, 3) := by decide +kernel
theorem d_Reader_product_49 : decode kY_Reader_product.2.1 49 = .ok (.goto (-38), 3) := by decide +kernel
theorem d_Reader_product_38 : decode kY_Reader_product.2.1 38 = .ok (.iconst 0, 1) := by decide +kernel
theorem d_Reader_product_39 : decode kY_Reader_product.2.1 39 = .ok (.ireturn, 1) := by decide +kernel
theorem d_Reader_product_7 : decode kY_Reader_product.2.1 7 = .ok (.iconst 0, 1) := by decide +kernel
theorem d_Reader_product_8 : decode kY_Reader_product.2.1 8 = .ok (.ireturn, 1) := by decide +kernel
def w_Reader_product_q0 : List Nat := [901, 902, 909, 910, 911, 912, 913, 914, 916, 918, 967]
theorem tc_Reader_product_q0 {g : mj_G} {l : Launch} {d : Nat} {T0 : tm_H} {M0 : mj_M} {n0 x9 : Nat} {o0 : Nat} (h_o0 : T0 o0 = some (0, 9, 0)) {p : Int32} (hO : tm_at M0 o0 9 16 (.int p)) (hp : 4 ≤ p.toInt) (I0 : tm_I tm_FT (tm_in w_Reader_product_q0) x9 T0 M0 n0 T0 M0 n0) : mj_Met g l kY_Reader_product (d + 3) [.ref o0] M0 n0 0 0 (tm_Q tm_FT (tm_in w_Reader_product_q0) x9 T0 M0 n0 (fun r _ M => ∃ v : Int32, r = some (.int v) ∧ 0 ≤ v.toInt ∧ v.toInt ≤ 1 ∧ (v.toInt = 1 → tm_at M o0 9 16 (.int p)))) := by
  refine mj_enter (by decide) (Nat.le_of_ble_eq_true rfl) ?_
  refine mv_aload_n d_Reader_product_0 rfl rfl ?_
  obtain ⟨_, b7, -⟩ := I0.1 _ _ h_o0
  refine mv_callV (kc' := 0) (ks' := 0) (As := []) (st9 := [.ref o0]) d_Reader_product_1 lV_Reader_221 b7 rfl (tc_Reader_factor_q0 (d := d) (x9 := x9) (o0 := o0) h_o0 (p := p) hO (by omega) I0.start) rfl (Nat.le_of_ble_eq_true rfl) (Nat.le_of_ble_eq_true rfl) (Nat.le_of_ble_eq_true rfl) (hst := rfl) (fun b1r M2 n3 b1 => ?_)
  obtain ⟨T4, J5, v8, rfl, b9, b10, o11⟩ := b1
  have I6 := I0.call J5 (tm_sub (by decide)) (Or.inl rfl)
  have t12 := J5.up h_o0
  have := mz_hi v8
  refine mv_if_neZ (tgt := 9) (a := v8.toInt) d_Reader_product_4 (by decide) rfl (fun b13 => ?_) (fun b13 => ?_)
  · have q14 := o11 (by omega)
    refine mv_iconst (v := 0) d_Reader_product_9 (by decide) ?_
    refine mv_istore_n (lv' := [(1, .int 0), (0, .ref o0)]) d_Reader_product_10 rfl (by decide) rfl ?_
    have L11_15 : ∀ (k : Nat) (i1_15 : Int32) (T_15 : tm_H) (M_15 : mj_M) (n_15 : Nat), tm_I tm_FT (tm_in w_Reader_product_q0) x9 T0 M0 n0 T_15 M_15 n_15 → T_15 o0 = some (0, 9, 0) → 0 ≤ i1_15.toInt → tm_at M_15 o0 9 16 (.int p) → 2147483647 - i1_15.toInt < (k : Int) → mj_V g l kY_Reader_product (d + 3) 11 [(1, .int i1_15), (0, .ref o0)] [] M_15 n_15 0 0 (tm_Q tm_FT (tm_in w_Reader_product_q0) x9 T0 M0 n0 (fun r _ M => ∃ v : Int32, r = some (.int v) ∧ 0 ≤ v.toInt ∧ v.toInt ≤ 1 ∧ (v.toInt = 1 → tm_at M o0 9 16 (.int p)))) := by
      intro k15
      induction k15 with
      | zero =>
        intro i1_15 T_15 M_15 n_15 I_15 h_q0_15 iv0_15 kp0_15 hk15
        have := mz_hi i1_15
        omega
      | succ k15 ih15 =>
        intro i1_15 T_15 M_15 n_15 I_15 h_q0_15 iv0_15 kp0_15 hk15
        refine mv_iload_n d_Reader_product_11 rfl rfl ?_
        refine mv_sipush (v := 400) d_Reader_product_12 (by decide) ?_
        have := mz_hi i1_15
        refine mv_icmp_geZ (tgt := 52) (a := i1_15.toInt) (b := 400) d_Reader_product_15 (by decide) rfl (by decide) (fun b16 => ?_) (fun b16 => ?_)
        · refine mv_iconst (v := 1) d_Reader_product_52 (by decide) ?_
          exact mv_iret d_Reader_product_53 rfl (by decide) ⟨_, I_15, _, rfl, by decide, by decide, fun _ => kp0_15⟩
        · refine mv_aload_n d_Reader_product_18 rfl rfl ?_
          refine mv_bipush (v := 42) d_Reader_product_19 (by decide) ?_
          obtain ⟨_, b23, -⟩ := I_15.1 _ _ h_q0_15
          refine mv_callV (kc' := 0) (ks' := 0) (As := [.int 42]) (st9 := [.int 42, .ref o0]) d_Reader_product_21 lV_Reader_209 b23 rfl (tc_Reader_isSign (d := (d + 2)) (x9 := x9) (o0 := o0) (x1 := 42) h_q0_15 I_15.start) rfl (Nat.le_of_ble_eq_true rfl) (Nat.le_of_ble_eq_true rfl) (Nat.le_of_ble_eq_true rfl) (hst := rfl) (fun b17r M18 n19 b17 => ?_)
          obtain ⟨T20, J21, v24, rfl, b25, b26⟩ := b17
          have I22 := I_15.call J21 (tm_sub (by decide)) (Or.inl rfl)
          have t27 := J21.up h_q0_15
          have q28 := J21.keep h_q0_15 (by decide) kp0_15
          have := mz_hi v24
          refine mv_if_eqZ (tgt := 52) (a := v24.toInt) d_Reader_product_24 (by decide) rfl (fun b29 => ?_) (fun b29 => ?_)
          · refine mv_iconst (v := 1) d_Reader_product_52 (by decide) ?_
            exact mv_iret d_Reader_product_53 rfl (by decide) ⟨_, I22, _, rfl, by decide, by decide, fun _ => q28⟩
          · refine mv_aload_n d_Reader_product_27 rfl rfl ?_
            obtain ⟨_, b36, -⟩ := I22.1 _ _ t27
            refine mv_callV (kc' := 0) (ks' := 0) (As := []) (st9 := [.ref o0]) d_Reader_product_28 lV_Reader_82 b36 rfl (tc_Reader_advance (d := (d + 2)) (x9 := x9) (o0 := o0) t27 I22.start) rfl (Nat.le_of_ble_eq_true rfl) (Nat.le_of_ble_eq_true rfl) (Nat.le_of_ble_eq_true rfl) (hst := rfl) (fun b30r M31 n32 b30 => ?_)
            obtain ⟨T33, J34, rfl⟩ := b30
            have I35 := I22.call J34 (tm_sub (by decide)) (Or.inl rfl)
            have t37 := J34.up t27
            have q38 := J34.keep t27 (by decide) q28
            refine mv_aload_n d_Reader_product_31 rfl rfl ?_
            obtain ⟨_, b45, -⟩ := I35.1 _ _ t37
            refine mv_callV (kc' := 0) (ks' := 0) (As := []) (st9 := [.ref o0]) d_Reader_product_32 lV_Reader_221 b45 rfl (tc_Reader_factor_q0 (d := d) (x9 := x9) (o0 := o0) t37 (p := p) q38 (by omega) I35.start) rfl (Nat.le_of_ble_eq_true rfl) (Nat.le_of_ble_eq_true rfl) (Nat.le_of_ble_eq_true rfl) (hst := rfl) (fun b39r M40 n41 b39 => ?_)
            obtain ⟨T42, J43, v46, rfl, b47, b48, o49⟩ := b39
            have I44 := I35.call J43 (tm_sub (by decide)) (Or.inl rfl)
            have t50 := J43.up t37
            have := mz_hi v46
            refine mv_if_neZ (tgt := 40) (a := v46.toInt) d_Reader_product_35 (by decide) rfl (fun b51 => ?_) (fun b51 => ?_)
            · have q52 := o49 (by omega)
              refine mv_aload_n d_Reader_product_40 rfl rfl ?_
              refine mv_iconst (v := 4) d_Reader_product_41 (by decide) ?_
              refine mv_iconst (v := 0) d_Reader_product_42 (by decide) ?_
              obtain ⟨_, b59, -⟩ := I44.1 _ _ t50
              refine mv_callV (kc' := 0) (ks' := 0) (As := [.int 4, .int 0]) (st9 := [.int 0, .int 4, .ref o0]) d_Reader_product_43 lV_Reader_203 b59 rfl (tc_Reader_emit (d := (d + 2)) (x9 := x9) (o0 := o0) (x1 := 4) (x2 := 0) t50 I44.start) rfl (Nat.le_of_ble_eq_true rfl) (Nat.le_of_ble_eq_true rfl) (Nat.le_of_ble_eq_true rfl) (hst := rfl) (fun b53r M54 n55 b53 => ?_)
              obtain ⟨T56, J57, rfl⟩ := b53
              have I58 := I44.call J57 (tm_sub (by decide)) (Or.inl rfl)
              have t60 := J57.up t50
              have q61 := J57.keep t50 (by decide) q52
              refine mv_iinc (v := (i1_15 + 1)) (lv' := [(1, .int (i1_15 + 1)), (0, .ref o0)]) d_Reader_product_46 rfl rfl (by decide) rfl ?_
              refine mv_goto (tgt := 11) d_Reader_product_49 (by decide) ?_
              have b62 : (i1_15 + 1).toInt = i1_15.toInt + 1 := mz_addn 1 1 (by decide) (by have := mz_lo i1_15; omega) (by have := mz_hi i1_15; omega)
              exact (ih15 (i1_15 + 1) T56 M54 n55 I58 t60 (by first | omega | decide) q61 (by omega))
            · refine mv_iconst (v := 0) d_Reader_product_38 (by decide) ?_
              exact mv_iret d_Reader_product_39 rfl (by decide) ⟨_, I44, _, rfl, by decide, by decide, fun h => absurd h (by decide)⟩
    exact mv_less (Nat.zero_le _) (Nat.zero_le _) (L11_15 4294967296 0 T4 M2 n3 I6 t12 (by first | omega | decide) q14 (by show (2147483647 - (0 : Int) : Int) < _; decide))
  · refine mv_iconst (v := 0) d_Reader_product_7 (by decide) ?_
    exact mv_iret d_Reader_product_8 rfl (by decide) ⟨_, I6, _, rfl, by decide, by decide, fun h => absurd h (by decide)⟩
theorem lV_Reader_218 : mj_lV "TrustDesk$Reader" 218 kY_Reader_product 0 := ⟨⟨(mj_in1 (List.mem_of_getElem? (i := 503) (by decide +kernel)) rfl), (mj_in1 (List.mem_of_getElem? (i := 3) (by decide +kernel)) rfl), (mj_in1 (List.mem_of_getElem? (i := 506) (by decide +kernel)) rfl), by decide, rfl, by decide⟩, (mj_in1 (List.mem_of_getElem? (i := 505) (by decide +kernel)) rfl), (mj_in (List.mem_append_left _ (List.mem_of_getElem? (i := 24) (by decide +kernel))) rfl)⟩
theorem d_Reader_sum_4 : decode kY_Reader_sum.2.1 4 = .ok (.ifCond .ne 5, 3) := by decide +kernel
theorem d_Reader_sum_9 : decode kY_Reader_sum.2.1 9 = .ok (.iconst 0, 1) := by decide +kernel
theorem d_Reader_sum_10 : decode kY_Reader_sum.2.1 10 = .ok (.istore_n 1, 1) := by decide +kernel
theorem d_Reader_sum_11 : decode kY_Reader_sum.2.1 11 = .ok (.iload_n 1, 1) := by decide +kernel
theorem d_Reader_sum_12 : decode kY_Reader_sum.2.1 12 = .ok (.sipush 400, 3) := by decide +kernel
theorem d_Reader_sum_15 : decode kY_Reader_sum.2.1 15 = .ok (.if_icmp .ge 61, 3) := by decide +kernel
theorem d_Reader_sum_76 : decode kY_Reader_sum.2.1 76 = .ok (.iconst 1, 1) := by decide +kernel
theorem d_Reader_sum_77 : decode kY_Reader_sum.2.1 77 = .ok (.ireturn, 1) := by decide +kernel
theorem d_Reader_sum_18 : decode kY_Reader_sum.2.1 18 = .ok (.aload_n 0, 1) := by decide +kernel
theorem d_Reader_sum_19 : decode kY_Reader_sum.2.1 19 = .ok (.bipush 43, 2) := by decide +kernel
theorem d_Reader_sum_21 : decode kY_Reader_sum.2.1 21 = .ok (.invokevirtual 209, 3) := by decide +kernel
theorem d_Reader_sum_24 : decode kY_Reader_sum.2.1 24 = .ok (.ifCond .ne 12, 3) := by decide +kernel
theorem d_Reader_sum_36 : decode kY_Reader_sum.2.1 36 = .ok (.aload_n 0, 1) := by decide +kernel
theorem d_Reader_sum_37 : decode kY_Reader_sum.2.1 37 = .ok (.bipush 43, 2) := by decide +kernel
theorem d_Reader_sum_39 : decode kY_Reader_sum.2.1 39 = .ok (.invokevirtual 209, 3) := by decide +kernel
theorem d_Reader_sum_42 : decode kY_Reader_sum.2.1 42 = .ok (.ifCond .eq 7, 3) := by decide +kernel
theorem d_Reader_sum_49 : decode kY_Reader_sum.2.1 49 = .ok (.iconst 3, 1) := by decide +kernel
theorem d_Reader_sum_50 : decode kY_Reader_sum.2.1 50 = .ok (.istore_n 2, 1) := by decide +kernel
theorem d_Reader_sum_51 : decode kY_Reader_sum.2.1 51 = .ok (.aload_n 0, 1) := by decide +kernel
theorem d_Reader_sum_52 : decode kY_Reader_sum.2.1 52 = .ok (.invokevirtual 82, 3) := by decide +kernel
theorem d_Reader_sum_55 : decode kY_Reader_sum.2.1 55 = .ok (.aload_n 0, 1) := by decide +kernel
theorem d_Reader_sum_56 : decode kY_Reader_sum.2.1 56 = .ok (.invokevirtual 218, 3) := by decide +kernel
theorem d_Reader_sum_59 : decode kY_Reader_sum.2.1 59 = .ok (.ifCond .ne 5, 3) := by decide +kernel
theorem d_Reader_sum_64 : decode kY_Reader_sum.2.1 64 = .ok (.aload_n 0, 1) := by decide +kernel
theorem d_Reader_sum_65 : decode kY_Reader_sum.2.1 65 = .ok (.iload_n 2, 1) := by decide +kernel
theorem d_Reader_sum_66 : decode kY_Reader_sum.2.1 66 = .ok (.iconst 0, 1) := by decide +kernel
theorem d_Reader_sum_67 : decode kY_Reader_sum.2.1 67 = .ok (.invokevirtual 203, 3) := by decide +kernel
theorem d_Reader_sum_70 : decode kY_Reader_sum.2.1 70 = .ok (.iinc 1 1, 3) := by decide +kernel
theorem d_Reader_sum_73 : decode kY_Reader_sum.2.1 73 = .ok (.goto (-62), 3) := by decide +kernel
theorem d_Reader_sum_62 : decode kY_Reader_sum.2.1 62 = .ok (.iconst 0, 1) := by decide +kernel
theorem d_Reader_sum_63 : decode kY_Reader_sum.2.1 63 = .ok (.ireturn, 1) := by decide +kernel
theorem d_Reader_sum_45 : decode kY_Reader_sum.2.1 45 = .ok (.iconst 2, 1) := by decide +kernel
theorem d_Reader_sum_46 : decode kY_Reader_sum.2.1 46 = .ok (.goto 4, 3) := by decide +kernel
theorem d_Reader_sum_27 : decode kY_Reader_sum.2.1 27 = .ok (.aload_n 0, 1) := by decide +kernel
theorem d_Reader_sum_28 : decode kY_Reader_sum.2.1 28 = .ok (.bipush 45, 2) := by decide +kernel
theorem d_Reader_sum_30 : decode kY_Reader_sum.2.1 30 = .ok (.invokevirtual 209, 3) := by decide +kernel
theorem d_Reader_sum_33 : decode kY_Reader_sum.2.1 33 = .ok (.ifCond .eq 43, 3) := by decide +kernel
theorem d_Reader_sum_7 : decode kY_Reader_sum.2.1 7 = .ok (.iconst 0, 1) := by decide +kernel
theorem d_Reader_sum_8 : decode kY_Reader_sum.2.1 8 = .ok (.ireturn, 1) := by decide +kernel
def w_Reader_sum_q0 : List Nat := [901, 902, 909, 910, 911, 912, 913, 914, 916, 918, 967]
theorem tc_Reader_sum_q0 {g : mj_G} {l : Launch} {d : Nat} {T0 : tm_H} {M0 : mj_M} {n0 x9 : Nat} {o0 : Nat} (h_o0 : T0 o0 = some (0, 9, 0)) {p : Int32} (hO : tm_at M0 o0 9 16 (.int p)) (hp : 4 ≤ p.toInt) (I0 : tm_I tm_FT (tm_in w_Reader_sum_q0) x9 T0 M0 n0 T0 M0 n0) : mj_Met g l kY_Reader_sum (d + 4) [.ref o0] M0 n0 0 0 (tm_Q tm_FT (tm_in w_Reader_sum_q0) x9 T0 M0 n0 (fun r _ M => ∃ v : Int32, r = some (.int v) ∧ 0 ≤ v.toInt ∧ v.toInt ≤ 1 ∧ (v.toInt = 1 → tm_at M o0 9 16 (.int p)))) := by
  refine mj_enter (by decide) (Nat.le_of_ble_eq_true rfl) ?_
  refine mv_aload_n d_Reader_sum_0 rfl rfl ?_
  obtain ⟨_, b7, -⟩ := I0.1 _ _ h_o0
  refine mv_callV (kc' := 0) (ks' := 0) (As := []) (st9 := [.ref o0]) d_Reader_sum_1 lV_Reader_218 b7 rfl (tc_Reader_product_q0 (d := d) (x9 := x9) (o0 := o0) h_o0 (p := p) hO (by omega) I0.start) rfl (Nat.le_of_ble_eq_true rfl) (Nat.le_of_ble_eq_true rfl) (Nat.le_of_ble_eq_true rfl) (hst := rfl) (fun b1r M2 n3 b1 => ?_)
  obtain ⟨T4, J5, v8, rfl, b9, b10, o11⟩ := b1
  have I6 := I0.call J5 (tm_sub (by decide)) (Or.inl rfl)
  have t12 := J5.up h_o0
  have := mz_hi v8
  refine mv_if_neZ (tgt := 9) (a := v8.toInt) d_Reader_sum_4 (by decide) rfl (fun b13 => ?_) (fun b13 => ?_)
  · have q14 := o11 (by omega)
    refine mv_iconst (v := 0) d_Reader_sum_9 (by decide) ?_
    refine mv_istore_n (lv' := [(1, .int 0), (0, .ref o0)]) d_Reader_sum_10 rfl (by decide) rfl ?_
    have L11_15 : ∀ (k : Nat) (i1_15 : Int32) (T_15 : tm_H) (M_15 : mj_M) (n_15 : Nat), tm_I tm_FT (tm_in w_Reader_sum_q0) x9 T0 M0 n0 T_15 M_15 n_15 → T_15 o0 = some (0, 9, 0) → 0 ≤ i1_15.toInt → tm_at M_15 o0 9 16 (.int p) → 2147483647 - i1_15.toInt < (k : Int) → mj_V g l kY_Reader_sum (d + 4) 11 [(1, .int i1_15), (0, .ref o0)] [] M_15 n_15 0 0 (tm_Q tm_FT (tm_in w_Reader_sum_q0) x9 T0 M0 n0 (fun r _ M => ∃ v : Int32, r = some (.int v) ∧ 0 ≤ v.toInt ∧ v.toInt ≤ 1 ∧ (v.toInt = 1 → tm_at M o0 9 16 (.int p)))) := by
      intro k15
      induction k15 with
      | zero =>
        intro i1_15 T_15 M_15 n_15 I_15 h_q0_15 iv0_15 kp0_15 hk15
        have := mz_hi i1_15
        omega
      | succ k15 ih15 =>
        intro i1_15 T_15 M_15 n_15 I_15 h_q0_15 iv0_15 kp0_15 hk15
        refine mv_iload_n d_Reader_sum_11 rfl rfl ?_
        refine mv_sipush (v := 400) d_Reader_sum_12 (by decide) ?_
        have := mz_hi i1_15
        refine mv_icmp_geZ (tgt := 76) (a := i1_15.toInt) (b := 400) d_Reader_sum_15 (by decide) rfl (by decide) (fun b16 => ?_) (fun b16 => ?_)
        · refine mv_iconst (v := 1) d_Reader_sum_76 (by decide) ?_
          exact mv_iret d_Reader_sum_77 rfl (by decide) ⟨_, I_15, _, rfl, by decide, by decide, fun _ => kp0_15⟩
        · refine mv_aload_n d_Reader_sum_18 rfl rfl ?_
          refine mv_bipush (v := 43) d_Reader_sum_19 (by decide) ?_
          obtain ⟨_, b23, -⟩ := I_15.1 _ _ h_q0_15
          refine mv_callV (kc' := 0) (ks' := 0) (As := [.int 43]) (st9 := [.int 43, .ref o0]) d_Reader_sum_21 lV_Reader_209 b23 rfl (tc_Reader_isSign (d := (d + 3)) (x9 := x9) (o0 := o0) (x1 := 43) h_q0_15 I_15.start) rfl (Nat.le_of_ble_eq_true rfl) (Nat.le_of_ble_eq_true rfl) (Nat.le_of_ble_eq_true rfl) (hst := rfl) (fun b17r M18 n19 b17 => ?_)
          obtain ⟨T20, J21, v24, rfl, b25, b26⟩ := b17
          have I22 := I_15.call J21 (tm_sub (by decide)) (Or.inl rfl)
          have t27 := J21.up h_q0_15
          have q28 := J21.keep h_q0_15 (by decide) kp0_15
          have := mz_hi v24
          refine mv_if_neZ (tgt := 36) (a := v24.toInt) d_Reader_sum_24 (by decide) rfl (fun b29 => ?_) (fun b29 => ?_)
          · refine mv_aload_n d_Reader_sum_36 rfl rfl ?_
            refine mv_bipush (v := 43) d_Reader_sum_37 (by decide) ?_
            obtain ⟨_, b36, -⟩ := I22.1 _ _ t27
            refine mv_callV (kc' := 0) (ks' := 0) (As := [.int 43]) (st9 := [.int 43, .ref o0]) d_Reader_sum_39 lV_Reader_209 b36 rfl (tc_Reader_isSign (d := (d + 3)) (x9 := x9) (o0 := o0) (x1 := 43) t27 I22.start) rfl (Nat.le_of_ble_eq_true rfl) (Nat.le_of_ble_eq_true rfl) (Nat.le_of_ble_eq_true rfl) (hst := rfl) (fun b30r M31 n32 b30 => ?_)
            obtain ⟨T33, J34, v37, rfl, b38, b39⟩ := b30
            have I35 := I22.call J34 (tm_sub (by decide)) (Or.inl rfl)
            have t40 := J34.up t27
            have q41 := J34.keep t27 (by decide) q28
            have := mz_hi v37
            refine mv_if_eqZ (tgt := 49) (a := v37.toInt) d_Reader_sum_42 (by decide) rfl (fun b42 => ?_) (fun b42 => ?_)
            · refine mv_iconst (v := 3) d_Reader_sum_49 (by decide) ?_
              refine mv_istore_n (lv' := [(2, .int 3), (1, .int i1_15), (0, .ref o0)]) d_Reader_sum_50 rfl (by decide) rfl ?_
              refine mv_aload_n d_Reader_sum_51 rfl rfl ?_
              obtain ⟨_, b49, -⟩ := I35.1 _ _ t40
              refine mv_callV (kc' := 0) (ks' := 0) (As := []) (st9 := [.ref o0]) d_Reader_sum_52 lV_Reader_82 b49 rfl (tc_Reader_advance (d := (d + 3)) (x9 := x9) (o0 := o0) t40 I35.start) rfl (Nat.le_of_ble_eq_true rfl) (Nat.le_of_ble_eq_true rfl) (Nat.le_of_ble_eq_true rfl) (hst := rfl) (fun b43r M44 n45 b43 => ?_)
              obtain ⟨T46, J47, rfl⟩ := b43
              have I48 := I35.call J47 (tm_sub (by decide)) (Or.inl rfl)
              have t50 := J47.up t40
              have q51 := J47.keep t40 (by decide) q41
              refine mv_aload_n d_Reader_sum_55 rfl rfl ?_
              obtain ⟨_, b58, -⟩ := I48.1 _ _ t50
              refine mv_callV (kc' := 0) (ks' := 0) (As := []) (st9 := [.ref o0]) d_Reader_sum_56 lV_Reader_218 b58 rfl (tc_Reader_product_q0 (d := d) (x9 := x9) (o0 := o0) t50 (p := p) q51 (by omega) I48.start) rfl (Nat.le_of_ble_eq_true rfl) (Nat.le_of_ble_eq_true rfl) (Nat.le_of_ble_eq_true rfl) (hst := rfl) (fun b52r M53 n54 b52 => ?_)
              obtain ⟨T55, J56, v59, rfl, b60, b61, o62⟩ := b52
              have I57 := I48.call J56 (tm_sub (by decide)) (Or.inl rfl)
              have t63 := J56.up t50
              have := mz_hi v59
              refine mv_if_neZ (tgt := 64) (a := v59.toInt) d_Reader_sum_59 (by decide) rfl (fun b64 => ?_) (fun b64 => ?_)
              · have q65 := o62 (by omega)
                refine mv_aload_n d_Reader_sum_64 rfl rfl ?_
                refine mv_iload_n d_Reader_sum_65 rfl rfl ?_
                refine mv_iconst (v := 0) d_Reader_sum_66 (by decide) ?_
                obtain ⟨_, b72, -⟩ := I57.1 _ _ t63
                refine mv_callV (kc' := 0) (ks' := 0) (As := [.int 3, .int 0]) (st9 := [.int 0, .int 3, .ref o0]) d_Reader_sum_67 lV_Reader_203 b72 rfl (tc_Reader_emit (d := (d + 3)) (x9 := x9) (o0 := o0) (x1 := 3) (x2 := 0) t63 I57.start) rfl (Nat.le_of_ble_eq_true rfl) (Nat.le_of_ble_eq_true rfl) (Nat.le_of_ble_eq_true rfl) (hst := rfl) (fun b66r M67 n68 b66 => ?_)
                obtain ⟨T69, J70, rfl⟩ := b66
                have I71 := I57.call J70 (tm_sub (by decide)) (Or.inl rfl)
                have t73 := J70.up t63
                have q74 := J70.keep t63 (by decide) q65
                refine mv_iinc (v := (i1_15 + 1)) (lv' := [(1, .int (i1_15 + 1)), (2, .int 3), (0, .ref o0)]) d_Reader_sum_70 rfl rfl (by decide) rfl ?_
                refine mv_goto (tgt := 11) d_Reader_sum_73 (by decide) ?_
                refine mv_locals (lv' := [(1, .int (i1_15 + 1)), (0, .ref o0)]) (by intro q hq; simp only [List.mem_cons, List.not_mem_nil, or_false] at hq; rcases hq with rfl | rfl <;> rfl) ?_
                have b75 : (i1_15 + 1).toInt = i1_15.toInt + 1 := mz_addn 1 1 (by decide) (by have := mz_lo i1_15; omega) (by have := mz_hi i1_15; omega)
                exact (ih15 (i1_15 + 1) T69 M67 n68 I71 t73 (by first | omega | decide) q74 (by omega))
              · refine mv_iconst (v := 0) d_Reader_sum_62 (by decide) ?_
                exact mv_iret d_Reader_sum_63 rfl (by decide) ⟨_, I57, _, rfl, by decide, by decide, fun h => absurd h (by decide)⟩
            · refine mv_iconst (v := 2) d_Reader_sum_45 (by decide) ?_
              refine mv_goto (tgt := 50) d_Reader_sum_46 (by decide) ?_
              refine mv_istore_n (lv' := [(2, .int 2), (1, .int i1_15), (0, .ref o0)]) d_Reader_sum_50 rfl (by decide) rfl ?_
              refine mv_aload_n d_Reader_sum_51 rfl rfl ?_
              obtain ⟨_, b82, -⟩ := I35.1 _ _ t40
              refine mv_callV (kc' := 0) (ks' := 0) (As := []) (st9 := [.ref o0]) d_Reader_sum_52 lV_Reader_82 b82 rfl (tc_Reader_advance (d := (d + 3)) (x9 := x9) (o0 := o0) t40 I35.start) rfl (Nat.le_of_ble_eq_true rfl) (Nat.le_of_ble_eq_true rfl) (Nat.le_of_ble_eq_true rfl) (hst := rfl) (fun b76r M77 n78 b76 => ?_)
              obtain ⟨T79, J80, rfl⟩ := b76
              have I81 := I35.call J80 (tm_sub (by decide)) (Or.inl rfl)
              have t83 := J80.up t40
              have q84 := J80.keep t40 (by decide) q41
              refine mv_aload_n d_Reader_sum_55 rfl rfl ?_
              obtain ⟨_, b91, -⟩ := I81.1 _ _ t83
              refine mv_callV (kc' := 0) (ks' := 0) (As := []) (st9 := [.ref o0]) d_Reader_sum_56 lV_Reader_218 b91 rfl (tc_Reader_product_q0 (d := d) (x9 := x9) (o0 := o0) t83 (p := p) q84 (by omega) I81.start) rfl (Nat.le_of_ble_eq_true rfl) (Nat.le_of_ble_eq_true rfl) (Nat.le_of_ble_eq_true rfl) (hst := rfl) (fun b85r M86 n87 b85 => ?_)
              obtain ⟨T88, J89, v92, rfl, b93, b94, o95⟩ := b85
              have I90 := I81.call J89 (tm_sub (by decide)) (Or.inl rfl)
              have t96 := J89.up t83
              have := mz_hi v92
              refine mv_if_neZ (tgt := 64) (a := v92.toInt) d_Reader_sum_59 (by decide) rfl (fun b97 => ?_) (fun b97 => ?_)
              · have q98 := o95 (by omega)
                refine mv_aload_n d_Reader_sum_64 rfl rfl ?_
                refine mv_iload_n d_Reader_sum_65 rfl rfl ?_
                refine mv_iconst (v := 0) d_Reader_sum_66 (by decide) ?_
                obtain ⟨_, b105, -⟩ := I90.1 _ _ t96
                refine mv_callV (kc' := 0) (ks' := 0) (As := [.int 2, .int 0]) (st9 := [.int 0, .int 2, .ref o0]) d_Reader_sum_67 lV_Reader_203 b105 rfl (tc_Reader_emit (d := (d + 3)) (x9 := x9) (o0 := o0) (x1 := 2) (x2 := 0) t96 I90.start) rfl (Nat.le_of_ble_eq_true rfl) (Nat.le_of_ble_eq_true rfl) (Nat.le_of_ble_eq_true rfl) (hst := rfl) (fun b99r M100 n101 b99 => ?_)
                obtain ⟨T102, J103, rfl⟩ := b99
                have I104 := I90.call J103 (tm_sub (by decide)) (Or.inl rfl)
                have t106 := J103.up t96
                have q107 := J103.keep t96 (by decide) q98
                refine mv_iinc (v := (i1_15 + 1)) (lv' := [(1, .int (i1_15 + 1)), (2, .int 2), (0, .ref o0)]) d_Reader_sum_70 rfl rfl (by decide) rfl ?_
                refine mv_goto (tgt := 11) d_Reader_sum_73 (by decide) ?_
                refine mv_locals (lv' := [(1, .int (i1_15 + 1)), (0, .ref o0)]) (by intro q hq; simp only [List.mem_cons, List.not_mem_nil, or_false] at hq; rcases hq with rfl | rfl <;> rfl) ?_
                have b108 : (i1_15 + 1).toInt = i1_15.toInt + 1 := mz_addn 1 1 (by decide) (by have := mz_lo i1_15; omega) (by have := mz_hi i1_15; omega)
                exact (ih15 (i1_15 + 1) T102 M100 n101 I104 t106 (by first | omega | decide) q107 (by omega))
              · refine mv_iconst (v := 0) d_Reader_sum_62 (by decide) ?_
                exact mv_iret d_Reader_sum_63 rfl (by decide) ⟨_, I90, _, rfl, by decide, by decide, fun h => absurd h (by decide)⟩
          · refine mv_aload_n d_Reader_sum_27 rfl rfl ?_
            refine mv_bipush (v := 45) d_Reader_sum_28 (by decide) ?_
            obtain ⟨_, b115, -⟩ := I22.1 _ _ t27
            refine mv_callV (kc' := 0) (ks' := 0) (As := [.int 45]) (st9 := [.int 45, .ref o0]) d_Reader_sum_30 lV_Reader_209 b115 rfl (tc_Reader_isSign (d := (d + 3)) (x9 := x9) (o0 := o0) (x1 := 45) t27 I22.start) rfl (Nat.le_of_ble_eq_true rfl) (Nat.le_of_ble_eq_true rfl) (Nat.le_of_ble_eq_true rfl) (hst := rfl) (fun b109r M110 n111 b109 => ?_)
            obtain ⟨T112, J113, v116, rfl, b117, b118⟩ := b109
            have I114 := I22.call J113 (tm_sub (by decide)) (Or.inl rfl)
            have t119 := J113.up t27
            have q120 := J113.keep t27 (by decide) q28
            have := mz_hi v116
            refine mv_if_eqZ (tgt := 76) (a := v116.toInt) d_Reader_sum_33 (by decide) rfl (fun b121 => ?_) (fun b121 => ?_)
            · refine mv_iconst (v := 1) d_Reader_sum_76 (by decide) ?_
              exact mv_iret d_Reader_sum_77 rfl (by decide) ⟨_, I114, _, rfl, by decide, by decide, fun _ => q120⟩
            · refine mv_aload_n d_Reader_sum_36 rfl rfl ?_
              refine mv_bipush (v := 43) d_Reader_sum_37 (by decide) ?_
              obtain ⟨_, b128, -⟩ := I114.1 _ _ t119
              refine mv_callV (kc' := 0) (ks' := 0) (As := [.int 43]) (st9 := [.int 43, .ref o0]) d_Reader_sum_39 lV_Reader_209 b128 rfl (tc_Reader_isSign (d := (d + 3)) (x9 := x9) (o0 := o0) (x1 := 43) t119 I114.start) rfl (Nat.le_of_ble_eq_true rfl) (Nat.le_of_ble_eq_true rfl) (Nat.le_of_ble_eq_true rfl) (hst := rfl) (fun b122r M123 n124 b122 => ?_)
              obtain ⟨T125, J126, v129, rfl, b130, b131⟩ := b122
              have I127 := I114.call J126 (tm_sub (by decide)) (Or.inl rfl)
              have t132 := J126.up t119
              have q133 := J126.keep t119 (by decide) q120
              have := mz_hi v129
              refine mv_if_eqZ (tgt := 49) (a := v129.toInt) d_Reader_sum_42 (by decide) rfl (fun b134 => ?_) (fun b134 => ?_)
              · refine mv_iconst (v := 3) d_Reader_sum_49 (by decide) ?_
                refine mv_istore_n (lv' := [(2, .int 3), (1, .int i1_15), (0, .ref o0)]) d_Reader_sum_50 rfl (by decide) rfl ?_
                refine mv_aload_n d_Reader_sum_51 rfl rfl ?_
                obtain ⟨_, b141, -⟩ := I127.1 _ _ t132
                refine mv_callV (kc' := 0) (ks' := 0) (As := []) (st9 := [.ref o0]) d_Reader_sum_52 lV_Reader_82 b141 rfl (tc_Reader_advance (d := (d + 3)) (x9 := x9) (o0 := o0) t132 I127.start) rfl (Nat.le_of_ble_eq_true rfl) (Nat.le_of_ble_eq_true rfl) (Nat.le_of_ble_eq_true rfl) (hst := rfl) (fun b135r M136 n137 b135 => ?_)
                obtain ⟨T138, J139, rfl⟩ := b135
                have I140 := I127.call J139 (tm_sub (by decide)) (Or.inl rfl)
                have t142 := J139.up t132
                have q143 := J139.keep t132 (by decide) q133
                refine mv_aload_n d_Reader_sum_55 rfl rfl ?_
                obtain ⟨_, b150, -⟩ := I140.1 _ _ t142
                refine mv_callV (kc' := 0) (ks' := 0) (As := []) (st9 := [.ref o0]) d_Reader_sum_56 lV_Reader_218 b150 rfl (tc_Reader_product_q0 (d := d) (x9 := x9) (o0 := o0) t142 (p := p) q143 (by omega) I140.start) rfl (Nat.le_of_ble_eq_true rfl) (Nat.le_of_ble_eq_true rfl) (Nat.le_of_ble_eq_true rfl) (hst := rfl) (fun b144r M145 n146 b144 => ?_)
                obtain ⟨T147, J148, v151, rfl, b152, b153, o154⟩ := b144
                have I149 := I140.call J148 (tm_sub (by decide)) (Or.inl rfl)
                have t155 := J148.up t142
                have := mz_hi v151
                refine mv_if_neZ (tgt := 64) (a := v151.toInt) d_Reader_sum_59 (by decide) rfl (fun b156 => ?_) (fun b156 => ?_)
                · have q157 := o154 (by omega)
                  refine mv_aload_n d_Reader_sum_64 rfl rfl ?_
                  refine mv_iload_n d_Reader_sum_65 rfl rfl ?_
                  refine mv_iconst (v := 0) d_Reader_sum_66 (by decide) ?_
                  obtain ⟨_, b164, -⟩ := I149.1 _ _ t155
                  refine mv_callV (kc' := 0) (ks' := 0) (As := [.int 3, .int 0]) (st9 := [.int 0, .int 3, .ref o0]) d_Reader_sum_67 lV_Reader_203 b164 rfl (tc_Reader_emit (d := (d + 3)) (x9 := x9) (o0 := o0) (x1 := 3) (x2 := 0) t155 I149.start) rfl (Nat.le_of_ble_eq_true rfl) (Nat.le_of_ble_eq_true rfl) (Nat.le_of_ble_eq_true rfl) (hst := rfl) (fun b158r M159 n160 b158 => ?_)
                  obtain ⟨T161, J162, rfl⟩ := b158
                  have I163 := I149.call J162 (tm_sub (by decide)) (Or.inl rfl)
                  have t165 := J162.up t155
                  have q166 := J162.keep t155 (by decide) q157
                  refine mv_iinc (v := (i1_15 + 1)) (lv' := [(1, .int (i1_15 + 1)), (2, .int 3), (0, .ref o0)]) d_Reader_sum_70 rfl rfl (by decide) rfl ?_
                  refine mv_goto (tgt := 11) d_Reader_sum_73 (by decide) ?_
                  refine mv_locals (lv' := [(1, .int (i1_15 + 1)), (0, .ref o0)]) (by intro q hq; simp only [List.mem_cons, List.not_mem_nil, or_false] at hq; rcases hq with rfl | rfl <;> rfl) ?_
                  have b167 : (i1_15 + 1).toInt = i1_15.toInt + 1 := mz_addn 1 1 (by decide) (by have := mz_lo i1_15; omega) (by have := mz_hi i1_15; omega)
                  exact (ih15 (i1_15 + 1) T161 M159 n160 I163 t165 (by first | omega | decide) q166 (by omega))
                · refine mv_iconst (v := 0) d_Reader_sum_62 (by decide) ?_
                  exact mv_iret d_Reader_sum_63 rfl (by decide) ⟨_, I149, _, rfl, by decide, by decide, fun h => absurd h (by decide)⟩
              · refine mv_iconst (v := 2) d_Reader_sum_45 (by decide) ?_
                refine mv_goto (tgt := 50) d_Reader_sum_46 (by decide) ?_
                refine mv_istore_n (lv' := [(2, .int 2), (1, .int i1_15), (0, .ref o0)]) d_Reader_sum_50 rfl (by decide) rfl ?_
                refine mv_aload_n d_Reader_sum_51 rfl rfl ?_
                obtain ⟨_, b174, -⟩ := I127.1 _ _ t132
                refine mv_callV (kc' := 0) (ks' := 0) (As := []) (st9 := [.ref o0]) d_Reader_sum_52 lV_Reader_82 b174 rfl (tc_Reader_advance (d := (d + 3)) (x9 := x9) (o0 := o0) t132 I127.start) rfl (Nat.le_of_ble_eq_true rfl) (Nat.le_of_ble_eq_true rfl) (Nat.le_of_ble_eq_true rfl) (hst := rfl) (fun b168r M169 n170 b168 => ?_)
                obtain ⟨T171, J172, rfl⟩ := b168
                have I173 := I127.call J172 (tm_sub (by decide)) (Or.inl rfl)
                have t175 := J172.up t132
                have q176 := J172.keep t132 (by decide) q133
                refine mv_aload_n d_Reader_sum_55 rfl rfl ?_
                obtain ⟨_, b183, -⟩ := I173.1 _ _ t175
                refine mv_callV (kc' := 0) (ks' := 0) (As := []) (st9 := [.ref o0]) d_Reader_sum_56 lV_Reader_218 b183 rfl (tc_Reader_product_q0 (d := d) (x9 := x9) (o0 := o0) t175 (p := p) q176 (by omega) I173.start) rfl (Nat.le_of_ble_eq_true rfl) (Nat.le_of_ble_eq_true rfl) (Nat.le_of_ble_eq_true rfl) (hst := rfl) (fun b177r M178 n179 b177 => ?_)
                obtain ⟨T180, J181, v184, rfl, b185, b186, o187⟩ := b177
                have I182 := I173.call J181 (tm_sub (by decide)) (Or.inl rfl)
                have t188 := J181.up t175
                have := mz_hi v184
                refine mv_if_neZ (tgt := 64) (a := v184.toInt) d_Reader_sum_59 (by decide) rfl (fun b189 => ?_) (fun b189 => ?_)
                · have q190 := o187 (by omega)
                  refine mv_aload_n d_Reader_sum_64 rfl rfl ?_
                  refine mv_iload_n d_Reader_sum_65 rfl rfl ?_
                  refine mv_iconst (v := 0) d_Reader_sum_66 (by decide) ?_
                  obtain ⟨_, b197, -⟩ := I182.1 _ _ t188
                  refine mv_callV (kc' := 0) (ks' := 0) (As := [.int 2, .int 0]) (st9 := [.int 0, .int 2, .ref o0]) d_Reader_sum_67 lV_Reader_203 b197 rfl (tc_Reader_emit (d := (d + 3)) (x9 := x9) (o0 := o0) (x1 := 2) (x2 := 0) t188 I182.start) rfl (Nat.le_of_ble_eq_true rfl) (Nat.le_of_ble_eq_true rfl) (Nat.le_of_ble_eq_true rfl) (hst := rfl) (fun b191r M192 n193 b191 => ?_)
                  obtain ⟨T194, J195, rfl⟩ := b191
                  have I196 := I182.call J195 (tm_sub (by decide)) (Or.inl rfl)
                  have t198 := J195.up t188
                  have q199 := J195.keep t188 (by decide) q190
                  refine mv_iinc (v := (i1_15 + 1)) (lv' := [(1, .int (i1_15 + 1)), (2, .int 2), (0, .ref o0)]) d_Reader_sum_70 rfl rfl (by decide) rfl ?_
                  refine mv_goto (tgt := 11) d_Reader_sum_73 (by decide) ?_
                  refine mv_locals (lv' := [(1, .int (i1_15 + 1)), (0, .ref o0)]) (by intro q hq; simp only [List.mem_cons, List.not_mem_nil, or_false] at hq; rcases hq with rfl | rfl <;> rfl) ?_
                  have b200 : (i1_15 + 1).toInt = i1_15.toInt + 1 := mz_addn 1 1 (by decide) (by have := mz_lo i1_15; omega) (by have := mz_hi i1_15; omega)
                  exact (ih15 (i1_15 + 1) T194 M192 n193 I196 t198 (by first | omega | decide) q199 (by omega))
                · refine mv_iconst (v := 0) d_Reader_sum_62 (by decide) ?_
                  exact mv_iret d_Reader_sum_63 rfl (by decide) ⟨_, I182, _, rfl, by decide, by decide, fun h => absurd h (by decide)⟩
    exact mv_less (Nat.zero_le _) (Nat.zero_le _) (L11_15 4294967296 0 T4 M2 n3 I6 t12 (by first | omega | decide) q14 (by show (2147483647 - (0 : Int) : Int) < _; decide))
  · refine mv_iconst (v := 0) d_Reader_sum_7 (by decide) ?_
    exact mv_iret d_Reader_sum_8 rfl (by decide) ⟨_, I6, _, rfl, by decide, by decide, fun h => absurd h (by decide)⟩
theorem lV_Reader_186 : mj_lV "TrustDesk$Reader" 186 kY_Reader_sum 0 := ⟨⟨(mj_in1 (List.mem_of_getElem? (i := 499) (by decide +kernel)) rfl), (mj_in1 (List.mem_of_getElem? (i := 3) (by decide +kernel)) rfl), (mj_in1 (List.mem_of_getElem? (i := 502) (by decide +kernel)) rfl), by decide, rfl, by decide⟩, (mj_in1 (List.mem_of_getElem? (i := 501) (by decide +kernel)) rfl), (mj_in (List.mem_append_left _ (List.mem_of_getElem? (i := 23) (by decide +kernel))) rfl)⟩
theorem d_Reader_factor_99 : decode kY_Reader_factor.2.1 99 = .ok (.ifCond .ne 5, 3) := by decide +kernel
theorem d_Reader_factor_104 : decode kY_Reader_factor.2.1 104 = .ok (.aload_n 0, 1) := by decide +kernel
theorem d_Reader_factor_105 : decode kY_Reader_factor.2.1 105 = .ok (.dup, 1) := by decide +kernel
theorem d_Reader_factor_106 : decode kY_Reader_factor.2.1 106 = .ok (.getfield 73, 3) := by decide +kernel
theorem d_Reader_factor_109 : decode kY_Reader_factor.2.1 109 = .ok (.iconst 1, 1) := by decide +kernel
theorem d_Reader_factor_110 : decode kY_Reader_factor.2.1 110 = .ok (.isub, 1) := by decide +kernel
theorem d_Reader_factor_111 : decode kY_Reader_factor.2.1 111 = .ok (.putfield 73, 3) := by decide +kernel
theorem d_Reader_factor_114 : decode kY_Reader_factor.2.1 114 = .ok (.aload_n 0, 1) := by decide +kernel
theorem d_Reader_factor_115 : decode kY_Reader_factor.2.1 115 = .ok (.bipush 41, 2) := by decide +kernel
theorem d_Reader_factor_117 : decode kY_Reader_factor.2.1 117 = .ok (.invokevirtual 63, 3) := by decide +kernel
theorem d_Reader_factor_120 : decode kY_Reader_factor.2.1 120 = .ok (.ireturn, 1) := by decide +kernel
def w_Reader_factor_q1 : List Nat := [901, 902, 909, 910, 911, 912, 913, 914, 916, 918, 967]
theorem tc_Reader_factor_q1 {g : mj_G} {l : Launch} {d : Nat} {T0 : tm_H} {M0 : mj_M} {n0 x9 : Nat} {o0 : Nat} (h_o0 : T0 o0 = some (0, 9, 0)) {p : Int32} (hO : tm_at M0 o0 9 16 (.int p)) (hp : 3 ≤ p.toInt) (I0 : tm_I tm_FT (tm_in w_Reader_factor_q1) x9 T0 M0 n0 T0 M0 n0) : mj_Met g l kY_Reader_factor (d + 5) [.ref o0] M0 n0 0 0 (tm_Q tm_FT (tm_in w_Reader_factor_q1) x9 T0 M0 n0 (fun r _ M => ∃ v : Int32, r = some (.int v) ∧ 0 ≤ v.toInt ∧ v.toInt ≤ 1 ∧ (v.toInt = 1 → tm_at M o0 9 16 (.int p)))) := by
  refine mj_enter (by decide) (Nat.le_of_ble_eq_true rfl) ?_
  refine mv_aload_n d_Reader_factor_0 rfl rfl ?_
  obtain ⟨v2, q1⟩ := tm_atI I0 h_o0 (k := 10) rfl
  refine tr_getK q1 d_Reader_factor_1 f_Reader_41_9 ?_
  refine mv_iconst (v := 2) d_Reader_factor_4 (by decide) ?_
  have := mz_hi v2
  refine mv_icmp_neZ (tgt := 32) (a := v2.toInt) (b := 2) d_Reader_factor_5 (by decide) rfl (by decide) (fun b3 => ?_) (fun b3 => ?_)
  · refine mv_aload_n d_Reader_factor_32 rfl rfl ?_
    refine tr_getK (k := 10) q1 d_Reader_factor_33 f_Reader_41_9 ?_
    refine mv_iconst (v := 1) d_Reader_factor_36 (by decide) ?_
    have := mz_hi v2
    refine mv_icmp_neZ (tgt := 73) (a := v2.toInt) (b := 1) d_Reader_factor_37 (by decide) rfl (by decide) (fun b4 => ?_) (fun b4 => ?_)
    · refine mv_aload_n d_Reader_factor_73 rfl rfl ?_
      refine mv_bipush (v := 40) d_Reader_factor_74 (by decide) ?_
      obtain ⟨_, b11, -⟩ := I0.1 _ _ h_o0
      refine mv_callV (kc' := 0) (ks' := 0) (As := [.int 40]) (st9 := [.int 40, .ref o0]) d_Reader_factor_76 lV_Reader_209 b11 rfl (tc_Reader_isSign (d := (d + 4)) (x9 := x9) (o0 := o0) (x1 := 40) h_o0 I0.start) rfl (Nat.le_of_ble_eq_true rfl) (Nat.le_of_ble_eq_true rfl) (Nat.le_of_ble_eq_true rfl) (hst := rfl) (fun b5r M6 n7 b5 => ?_)
      obtain ⟨T8, J9, v12, rfl, b13, b14⟩ := b5
      have I10 := I0.call J9 (tm_sub (by decide)) (Or.inl rfl)
      have t15 := J9.up h_o0
      have q16 := J9.keep h_o0 (by decide) hO
      have q17 := J9.keep h_o0 (by decide) q1
      have := mz_hi v12
      refine mv_if_neZ (tgt := 88) (a := v12.toInt) d_Reader_factor_79 (by decide) rfl (fun b18 => ?_) (fun b18 => ?_)
      · refine mv_aload_n d_Reader_factor_88 rfl rfl ?_
        obtain ⟨_, b25, -⟩ := I10.1 _ _ t15
        refine mv_callV (kc' := 0) (ks' := 0) (As := []) (st9 := [.ref o0]) d_Reader_factor_89 lV_Reader_212 b25 rfl (tc_Reader_openBracket_q1 (d := (d + 3)) (x9 := x9) (o0 := o0) t15 (p := p) q16 (by omega) I10.start) rfl (Nat.le_of_ble_eq_true rfl) (Nat.le_of_ble_eq_true rfl) (Nat.le_of_ble_eq_true rfl) (hst := rfl) (fun b19r M20 n21 b19 => ?_)
        obtain ⟨T22, J23, v26, rfl, b27, b28, o29⟩ := b19
        have I24 := I10.call J23 (tm_sub (by decide)) (Or.inl rfl)
        have t30 := J23.up t15
        have := mz_hi v26
        refine mv_if_eqZ (tgt := 102) (a := v26.toInt) d_Reader_factor_92 (by decide) rfl (fun b31 => ?_) (fun b31 => ?_)
        · refine mv_iconst (v := 0) d_Reader_factor_102 (by decide) ?_
          exact mv_iret d_Reader_factor_103 rfl (by decide) ⟨_, I24, _, rfl, by decide, by decide, fun h => absurd h (by decide)⟩
        · obtain ⟨b33, q32⟩ := o29 (by omega)
          have b34 : (p + 1).toInt = p.toInt + 1 := mz_addn 1 1 (by decide) (by have := mz_lo p; omega) (by have := mz_hi p; omega)
          refine mv_aload_n d_Reader_factor_95 rfl rfl ?_
          obtain ⟨_, b41, -⟩ := I24.1 _ _ t30
          refine mv_callV (kc' := 0) (ks' := 0) (As := []) (st9 := [.ref o0]) d_Reader_factor_96 lV_Reader_186 b41 rfl (tc_Reader_sum_q0 (d := d) (x9 := x9) (o0 := o0) t30 (p := (p + 1)) q32 (by omega) I24.start) rfl (Nat.le_of_ble_eq_true rfl) (Nat.le_of_ble_eq_true rfl) (Nat.le_of_ble_eq_true rfl) (hst := rfl) (fun b35r M36 n37 b35 => ?_)
          obtain ⟨T38, J39, v42, rfl, b43, b44, o45⟩ := b35
          have I40 := I24.call J39 (tm_sub (by decide)) (Or.inl rfl)
          have t46 := J39.up t30
          have := mz_hi v42
          refine mv_if_neZ (tgt := 104) (a := v42.toInt) d_Reader_factor_99 (by decide) rfl (fun b47 => ?_) (fun b47 => ?_)
          · have q48 := o45 (by omega)
            refine mv_aload_n d_Reader_factor_104 rfl rfl ?_
            refine mv_dup d_Reader_factor_105 rfl ?_
            refine tr_getK (k := 16) q48 d_Reader_factor_106 f_Reader_73_9 ?_
            refine mv_iconst (v := 1) d_Reader_factor_109 (by decide) ?_
            refine mv_isubv (v := p) d_Reader_factor_110 (Int32.add_sub_cancel _ _) ?_
            refine tr_putK tm_okF I40 t46 (k := 16) rfl ⟨_, rfl⟩ (Or.inl (by decide)) d_Reader_factor_111 p_Reader_73_9 rfl rfl (fun M49 I50 q51 K52 => ?_)
            refine mv_aload_n d_Reader_factor_114 rfl rfl ?_
            refine mv_bipush (v := 41) d_Reader_factor_115 (by decide) ?_
            obtain ⟨_, b59, -⟩ := I50.1 _ _ t46
            refine mv_callV (kc' := 0) (ks' := 0) (As := [.int 41]) (st9 := [.int 41, .ref o0]) d_Reader_factor_117 lV_Reader_63 b59 rfl (tc_Reader_sign (d := (d + 3)) (x9 := x9) (o0 := o0) (x1 := 41) t46 I50.start) rfl (Nat.le_of_ble_eq_true rfl) (Nat.le_of_ble_eq_true rfl) (Nat.le_of_ble_eq_true rfl) (hst := rfl) (fun b53r M54 n55 b53 => ?_)
            obtain ⟨T56, J57, v60, rfl, b61, b62⟩ := b53
            have I58 := I50.call J57 (tm_sub (by decide)) (Or.inl rfl)
            have t63 := J57.up t46
            have q64 := J57.keep t46 (by decide) q51
            exact mv_iret d_Reader_factor_120 rfl (mz_nb (by omega) (by omega)) ⟨_, I58, _, rfl, by omega, by omega, fun _ => q64⟩
          · refine mv_iconst (v := 0) d_Reader_factor_102 (by decide) ?_
            exact mv_iret d_Reader_factor_103 rfl (by decide) ⟨_, I40, _, rfl, by decide, by decide, fun h => absurd h (by decide)⟩
      · refine mv_aload_n d_Reader_factor_82 rfl rfl ?_
        refine mv_iconst (v := 1) d_Reader_factor_83 (by decide) ?_
        obtain ⟨_, b71, -⟩ := I10.1 _ _ t15
        refine mv_callV (kc' := 0) (ks' := 0) (As := [.int 1]) (st9 := [.int 1, .ref o0]) d_Reader_factor_84 lV_Reader_56 b71 rfl (tc_Reader_refuse (d := (d + 4)) (x9 := x9) (o0 := o0) (x1 := 1) t15 I10.start) rfl (Nat.le_of_ble_eq_true rfl) (Nat.le_of_ble_eq_true rfl) (Nat.le_of_ble_eq_true rfl) (hst := rfl) (fun b65r M66 n67 b65 => ?_)
        obtain ⟨T68, J69, rfl⟩ := b65
        have I70 := I10.call J69 (tm_sub (by decide)) (Or.inl rfl)
        have t72 := J69.up t15
        have q73 := J69.keep t15 (by decide) q16
        have q74 := J69.keep t15 (by decide) q17
        exact mv_iret d_Reader_factor_87 rfl (by decide) ⟨_, I70, _, rfl, by decide, by decide, fun h => absurd h (by decide)⟩
    · refine mv_aload_n d_Reader_factor_40 rfl rfl ?_
      refine mv_iconst (v := 0) d_Reader_factor_41 (by decide) ?_
      refine mv_aload_n d_Reader_factor_42 rfl rfl ?_
      obtain ⟨v76, q75⟩ := tm_atI I0 h_o0 (k := 15) rfl
      refine tr_getK q75 d_Reader_factor_43 f_Reader_67_9 ?_
      obtain ⟨_, b83, -⟩ := I0.1 _ _ h_o0
      refine mv_callV (kc' := 0) (ks' := 0) (As := [.int 0, .int v76]) (st9 := [.int v76, .int 0, .ref o0]) d_Reader_factor_46 lV_Reader_85 b83 rfl (tc_Reader_valueAmong (d := (d + 4)) (x9 := x9) (o0 := o0) (x1 := 0) (x2 := v76) h_o0 I0.start) rfl (Nat.le_of_ble_eq_true rfl) (Nat.le_of_ble_eq_true rfl) (Nat.le_of_ble_eq_true rfl) (hst := rfl) (fun b77r M78 n79 b77 => ?_)
      obtain ⟨T80, J81, v84, rfl⟩ := b77
      have I82 := I0.call J81 (tm_sub (by decide)) (Or.inl rfl)
      have t85 := J81.up h_o0
      have q86 := J81.keep h_o0 (by decide) hO
      have q87 := J81.keep h_o0 (by decide) q1
      have q88 := J81.keep h_o0 (by decide) q75
      refine mv_istore_n (lv' := [(1, .int v84), (0, .ref o0)]) d_Reader_factor_49 rfl (by decide) rfl ?_
      refine mv_iload_n d_Reader_factor_50 rfl rfl ?_
      refine mv_iconst (v := (-1)) d_Reader_factor_51 (by decide) ?_
      have := mz_hi v84
      refine mv_icmp_neZ (tgt := 61) (a := v84.toInt) (b := (-1)) d_Reader_factor_52 (by decide) rfl (by decide) (fun b89 => ?_) (fun b89 => ?_)
      · refine mv_aload_n d_Reader_factor_61 rfl rfl ?_
        refine mv_iconst (v := 1) d_Reader_factor_62 (by decide) ?_
        refine mv_iload_n d_Reader_factor_63 rfl rfl ?_
        obtain ⟨_, b96, -⟩ := I82.1 _ _ t85
        refine mv_callV (kc' := 0) (ks' := 0) (As := [.int 1, .int v84]) (st9 := [.int v84, .int 1, .ref o0]) d_Reader_factor_64 lV_Reader_203 b96 rfl (tc_Reader_emit (d := (d + 4)) (x9 := x9) (o0 := o0) (x1 := 1) (x2 := v84) t85 I82.start) rfl (Nat.le_of_ble_eq_true rfl) (Nat.le_of_ble_eq_true rfl) (Nat.le_of_ble_eq_true rfl) (hst := rfl) (fun b90r M91 n92 b90 => ?_)
        obtain ⟨T93, J94, rfl⟩ := b90
        have I95 := I82.call J94 (tm_sub (by decide)) (Or.inl rfl)
        have t97 := J94.up t85
        have q98 := J94.keep t85 (by decide) q86
        have q99 := J94.keep t85 (by decide) q87
        have q100 := J94.keep t85 (by decide) q88
        refine mv_aload_n d_Reader_factor_67 rfl rfl ?_
        obtain ⟨_, b107, -⟩ := I95.1 _ _ t97
        refine mv_callV (kc' := 0) (ks' := 0) (As := []) (st9 := [.ref o0]) d_Reader_factor_68 lV_Reader_82 b107 rfl (tc_Reader_advance (d := (d + 4)) (x9 := x9) (o0 := o0) t97 I95.start) rfl (Nat.le_of_ble_eq_true rfl) (Nat.le_of_ble_eq_true rfl) (Nat.le_of_ble_eq_true rfl) (hst := rfl) (fun b101r M102 n103 b101 => ?_)
        obtain ⟨T104, J105, rfl⟩ := b101
        have I106 := I95.call J105 (tm_sub (by decide)) (Or.inl rfl)
        have t108 := J105.up t97
        have q109 := J105.keep t97 (by decide) q98
        have q110 := J105.keep t97 (by decide) q100
        refine mv_iconst (v := 1) d_Reader_factor_71 (by decide) ?_
        exact mv_iret d_Reader_factor_72 rfl (by decide) ⟨_, I106, _, rfl, by decide, by decide, fun _ => q109⟩
      · refine mv_aload_n d_Reader_factor_55 rfl rfl ?_
        refine mv_iconst (v := 3) d_Reader_factor_56 (by decide) ?_
        obtain ⟨_, b117, -⟩ := I82.1 _ _ t85
        refine mv_callV (kc' := 0) (ks' := 0) (As := [.int 3]) (st9 := [.int 3, .ref o0]) d_Reader_factor_57 lV_Reader_56 b117 rfl (tc_Reader_refuse (d := (d + 4)) (x9 := x9) (o0 := o0) (x1 := 3) t85 I82.start) rfl (Nat.le_of_ble_eq_true rfl) (Nat.le_of_ble_eq_true rfl) (Nat.le_of_ble_eq_true rfl) (hst := rfl) (fun b111r M112 n113 b111 => ?_)
        obtain ⟨T114, J115, rfl⟩ := b111
        have I116 := I82.call J115 (tm_sub (by decide)) (Or.inl rfl)
        have t118 := J115.up t85
        have q119 := J115.keep t85 (by decide) q86
        have q120 := J115.keep t85 (by decide) q87
        have q121 := J115.keep t85 (by decide) q88
        exact mv_iret d_Reader_factor_60 rfl (by decide) ⟨_, I116, _, rfl, by decide, by decide, fun h => absurd h (by decide)⟩
  · refine mv_aload_n d_Reader_factor_8 rfl rfl ?_
    refine mv_iconst (v := 0) d_Reader_factor_9 (by decide) ?_
    refine mv_sipush (v := 9999) d_Reader_factor_10 (by decide) ?_
    obtain ⟨_, b128, -⟩ := I0.1 _ _ h_o0
    refine mv_callV (kc' := 0) (ks' := 0) (As := [.int 0, .int 9999]) (st9 := [.int 9999, .int 0, .ref o0]) d_Reader_factor_13 lV_Reader_107 b128 rfl (tc_Reader_numeral (d := (d + 3)) (x9 := x9) (o0 := o0) (x1 := 0) (x2 := 9999) h_o0 I0.start) rfl (Nat.le_of_ble_eq_true rfl) (Nat.le_of_ble_eq_true rfl) (Nat.le_of_ble_eq_true rfl) (hst := rfl) (fun b122r M123 n124 b122 => ?_)
    obtain ⟨T125, J126, v129, rfl, b130, b131⟩ := b122
    have I127 := I0.call J126 (tm_sub (by decide)) (Or.inl rfl)
    have t132 := J126.up h_o0
    have q133 := J126.keep h_o0 (by decide) hO
    have := mz_hi v129
    refine mv_if_neZ (tgt := 21) (a := v129.toInt) d_Reader_factor_16 (by decide) rfl (fun b134 => ?_) (fun b134 => ?_)
    · refine mv_aload_n d_Reader_factor_21 rfl rfl ?_
      refine mv_iconst (v := 0) d_Reader_factor_22 (by decide) ?_
      refine mv_aload_n d_Reader_factor_23 rfl rfl ?_
      obtain ⟨v136, q135⟩ := tm_atI I127 t132 (k := 14) rfl
      refine tr_getK q135 d_Reader_factor_24 f_Reader_111_9 ?_
      obtain ⟨_, b143, -⟩ := I127.1 _ _ t132
      refine mv_callV (kc' := 0) (ks' := 0) (As := [.int 0, .int v136]) (st9 := [.int v136, .int 0, .ref o0]) d_Reader_factor_27 lV_Reader_203 b143 rfl (tc_Reader_emit (d := (d + 4)) (x9 := x9) (o0 := o0) (x1 := 0) (x2 := v136) t132 I127.start) rfl (Nat.le_of_ble_eq_true rfl) (Nat.le_of_ble_eq_true rfl) (Nat.le_of_ble_eq_true rfl) (hst := rfl) (fun b137r M138 n139 b137 => ?_)
      obtain ⟨T140, J141, rfl⟩ := b137
      have I142 := I127.call J141 (tm_sub (by decide)) (Or.inl rfl)
      have t144 := J141.up t132
      have q145 := J141.keep t132 (by decide) q133
      have q146 := J141.keep t132 (by decide) q135
      refine mv_iconst (v := 1) d_Reader_factor_30 (by decide) ?_
      exact mv_iret d_Reader_factor_31 rfl (by decide) ⟨_, I142, _, rfl, by decide, by decide, fun _ => q145⟩
    · refine mv_iconst (v := 0) d_Reader_factor_19 (by decide) ?_
      exact mv_iret d_Reader_factor_20 rfl (by decide) ⟨_, I127, _, rfl, by decide, by decide, fun h => absurd h (by decide)⟩
def w_Reader_product_q1 : List Nat := [901, 902, 909, 910, 911, 912, 913, 914, 916, 918, 967]
theorem tc_Reader_product_q1 {g : mj_G} {l : Launch} {d : Nat} {T0 : tm_H} {M0 : mj_M} {n0 x9 : Nat} {o0 : Nat} (h_o0 : T0 o0 = some (0, 9, 0)) {p : Int32} (hO : tm_at M0 o0 9 16 (.int p)) (hp : 3 ≤ p.toInt) (I0 : tm_I tm_FT (tm_in w_Reader_product_q1) x9 T0 M0 n0 T0 M0 n0) : mj_Met g l kY_Reader_product (d + 6) [.ref o0] M0 n0 0 0 (tm_Q tm_FT (tm_in w_Reader_product_q1) x9 T0 M0 n0 (fun r _ M => ∃ v : Int32, r = some (.int v) ∧ 0 ≤ v.toInt ∧ v.toInt ≤ 1 ∧ (v.toInt = 1 → tm_at M o0 9 16 (.int p)))) := by
  refine mj_enter (by decide) (Nat.le_of_ble_eq_true rfl) ?_
  refine mv_aload_n d_Reader_product_0 rfl rfl ?_
  obtain ⟨_, b7, -⟩ := I0.1 _ _ h_o0
  refine mv_callV (kc' := 0) (ks' := 0) (As := []) (st9 := [.ref o0]) d_Reader_product_1 lV_Reader_221 b7 rfl (tc_Reader_factor_q1 (d := d) (x9 := x9) (o0 := o0) h_o0 (p := p) hO (by omega) I0.start) rfl (Nat.le_of_ble_eq_true rfl) (Nat.le_of_ble_eq_true rfl) (Nat.le_of_ble_eq_true rfl) (hst := rfl) (fun b1r M2 n3 b1 => ?_)
  obtain ⟨T4, J5, v8, rfl, b9, b10, o11⟩ := b1
  have I6 := I0.call J5 (tm_sub (by decide)) (Or.inl rfl)
  have t12 := J5.up h_o0
  have := mz_hi v8
  refine mv_if_neZ (tgt := 9) (a := v8.toInt) d_Reader_product_4 (by decide) rfl (fun b13 => ?_) (fun b13 => ?_)
  · have q14 := o11 (by omega)
    refine mv_iconst (v := 0) d_Reader_product_9 (by decide) ?_
    refine mv_istore_n (lv' := [(1, .int 0), (0, .ref o0)]) d_Reader_product_10 rfl (by decide) rfl ?_
    have L11_15 : ∀ (k : Nat) (i1_15 : Int32) (T_15 : tm_H) (M_15 : mj_M) (n_15 : Nat), tm_I tm_FT (tm_in w_Reader_product_q1) x9 T0 M0 n0 T_15 M_15 n_15 → T_15 o0 = some (0, 9, 0) → 0 ≤ i1_15.toInt → tm_at M_15 o0 9 16 (.int p) → 2147483647 - i1_15.toInt < (k : Int) → mj_V g l kY_Reader_product (d + 6) 11 [(1, .int i1_15), (0, .ref o0)] [] M_15 n_15 0 0 (tm_Q tm_FT (tm_in w_Reader_product_q1) x9 T0 M0 n0 (fun r _ M => ∃ v : Int32, r = some (.int v) ∧ 0 ≤ v.toInt ∧ v.toInt ≤ 1 ∧ (v.toInt = 1 → tm_at M o0 9 16 (.int p)))) := by
      intro k15
      induction k15 with
      | zero =>
        intro i1_15 T_15 M_15 n_15 I_15 h_q0_15 iv0_15 kp0_15 hk15
        have := mz_hi i1_15
        omega
      | succ k15 ih15 =>
        intro i1_15 T_15 M_15 n_15 I_15 h_q0_15 iv0_15 kp0_15 hk15
        refine mv_iload_n d_Reader_product_11 rfl rfl ?_
        refine mv_sipush (v := 400) d_Reader_product_12 (by decide) ?_
        have := mz_hi i1_15
        refine mv_icmp_geZ (tgt := 52) (a := i1_15.toInt) (b := 400) d_Reader_product_15 (by decide) rfl (by decide) (fun b16 => ?_) (fun b16 => ?_)
        · refine mv_iconst (v := 1) d_Reader_product_52 (by decide) ?_
          exact mv_iret d_Reader_product_53 rfl (by decide) ⟨_, I_15, _, rfl, by decide, by decide, fun _ => kp0_15⟩
        · refine mv_aload_n d_Reader_product_18 rfl rfl ?_
          refine mv_bipush (v := 42) d_Reader_product_19 (by decide) ?_
          obtain ⟨_, b23, -⟩ := I_15.1 _ _ h_q0_15
          refine mv_callV (kc' := 0) (ks' := 0) (As := [.int 42]) (st9 := [.int 42, .ref o0]) d_Reader_product_21 lV_Reader_209 b23 rfl (tc_Reader_isSign (d := (d + 5)) (x9 := x9) (o0 := o0) (x1 := 42) h_q0_15 I_15.start) rfl (Nat.le_of_ble_eq_true rfl) (Nat.le_of_ble_eq_true rfl) (Nat.le_of_ble_eq_true rfl) (hst := rfl) (fun b17r M18 n19 b17 => ?_)
          obtain ⟨T20, J21, v24, rfl, b25, b26⟩ := b17
          have I22 := I_15.call J21 (tm_sub (by decide)) (Or.inl rfl)
          have t27 := J21.up h_q0_15
          have q28 := J21.keep h_q0_15 (by decide) kp0_15
          have := mz_hi v24
          refine mv_if_eqZ (tgt := 52) (a := v24.toInt) d_Reader_product_24 (by decide) rfl (fun b29 => ?_) (fun b29 => ?_)
          · refine mv_iconst (v := 1) d_Reader_product_52 (by decide) ?_
            exact mv_iret d_Reader_product_53 rfl (by decide) ⟨_, I22, _, rfl, by decide, by decide, fun _ => q28⟩
          · refine mv_aload_n d_Reader_product_27 rfl rfl ?_
            obtain ⟨_, b36, -⟩ := I22.1 _ _ t27
            refine mv_callV (kc' := 0) (ks' := 0) (As := []) (st9 := [.ref o0]) d_Reader_product_28 lV_Reader_82 b36 rfl (tc_Reader_advance (d := (d + 5)) (x9 := x9) (o0 := o0) t27 I22.start) rfl (Nat.le_of_ble_eq_true rfl) (Nat.le_of_ble_eq_true rfl) (Nat.le_of_ble_eq_true rfl) (hst := rfl) (fun b30r M31 n32 b30 => ?_)
            obtain ⟨T33, J34, rfl⟩ := b30
            have I35 := I22.call J34 (tm_sub (by decide)) (Or.inl rfl)
            have t37 := J34.up t27
            have q38 := J34.keep t27 (by decide) q28
            refine mv_aload_n d_Reader_product_31 rfl rfl ?_
            obtain ⟨_, b45, -⟩ := I35.1 _ _ t37
            refine mv_callV (kc' := 0) (ks' := 0) (As := []) (st9 := [.ref o0]) d_Reader_product_32 lV_Reader_221 b45 rfl (tc_Reader_factor_q1 (d := d) (x9 := x9) (o0 := o0) t37 (p := p) q38 (by omega) I35.start) rfl (Nat.le_of_ble_eq_true rfl) (Nat.le_of_ble_eq_true rfl) (Nat.le_of_ble_eq_true rfl) (hst := rfl) (fun b39r M40 n41 b39 => ?_)
            obtain ⟨T42, J43, v46, rfl, b47, b48, o49⟩ := b39
            have I44 := I35.call J43 (tm_sub (by decide)) (Or.inl rfl)
            have t50 := J43.up t37
            have := mz_hi v46
            refine mv_if_neZ (tgt := 40) (a := v46.toInt) d_Reader_product_35 (by decide) rfl (fun b51 => ?_) (fun b51 => ?_)
            · have q52 := o49 (by omega)
              refine mv_aload_n d_Reader_product_40 rfl rfl ?_
              refine mv_iconst (v := 4) d_Reader_product_41 (by decide) ?_
              refine mv_iconst (v := 0) d_Reader_product_42 (by decide) ?_
              obtain ⟨_, b59, -⟩ := I44.1 _ _ t50
              refine mv_callV (kc' := 0) (ks' := 0) (As := [.int 4, .int 0]) (st9 := [.int 0, .int 4, .ref o0]) d_Reader_product_43 lV_Reader_203 b59 rfl (tc_Reader_emit (d := (d + 5)) (x9 := x9) (o0 := o0) (x1 := 4) (x2 := 0) t50 I44.start) rfl (Nat.le_of_ble_eq_true rfl) (Nat.le_of_ble_eq_true rfl) (Nat.le_of_ble_eq_true rfl) (hst := rfl) (fun b53r M54 n55 b53 => ?_)
              obtain ⟨T56, J57, rfl⟩ := b53
              have I58 := I44.call J57 (tm_sub (by decide)) (Or.inl rfl)
              have t60 := J57.up t50
              have q61 := J57.keep t50 (by decide) q52
              refine mv_iinc (v := (i1_15 + 1)) (lv' := [(1, .int (i1_15 + 1)), (0, .ref o0)]) d_Reader_product_46 rfl rfl (by decide) rfl ?_
              refine mv_goto (tgt := 11) d_Reader_product_49 (by decide) ?_
              have b62 : (i1_15 + 1).toInt = i1_15.toInt + 1 := mz_addn 1 1 (by decide) (by have := mz_lo i1_15; omega) (by have := mz_hi i1_15; omega)
              exact (ih15 (i1_15 + 1) T56 M54 n55 I58 t60 (by first | omega | decide) q61 (by omega))
            · refine mv_iconst (v := 0) d_Reader_product_38 (by decide) ?_
              exact mv_iret d_Reader_product_39 rfl (by decide) ⟨_, I44, _, rfl, by decide, by decide, fun h => absurd h (by decide)⟩
    exact mv_less (Nat.zero_le _) (Nat.zero_le _) (L11_15 4294967296 0 T4 M2 n3 I6 t12 (by first | omega | decide) q14 (by show (2147483647 - (0 : Int) : Int) < _; decide))
  · refine mv_iconst (v := 0) d_Reader_product_7 (by decide) ?_
    exact mv_iret d_Reader_product_8 rfl (by decide) ⟨_, I6, _, rfl, by decide, by decide, fun h => absurd h (by decide)⟩
def w_Reader_sum_q1 : List Nat := [901, 902, 909, 910, 911, 912, 913, 914, 916, 918, 967]
theorem tc_Reader_sum_q1 {g : mj_G} {l : Launch} {d : Nat} {T0 : tm_H} {M0 : mj_M} {n0 x9 : Nat} {o0 : Nat} (h_o0 : T0 o0 = some (0, 9, 0)) {p : Int32} (hO : tm_at M0 o0 9 16 (.int p)) (hp : 3 ≤ p.toInt) (I0 : tm_I tm_FT (tm_in w_Reader_sum_q1) x9 T0 M0 n0 T0 M0 n0) : mj_Met g l kY_Reader_sum (d + 7) [.ref o0] M0 n0 0 0 (tm_Q tm_FT (tm_in w_Reader_sum_q1) x9 T0 M0 n0 (fun r _ M => ∃ v : Int32, r = some (.int v) ∧ 0 ≤ v.toInt ∧ v.toInt ≤ 1 ∧ (v.toInt = 1 → tm_at M o0 9 16 (.int p)))) := by
  refine mj_enter (by decide) (Nat.le_of_ble_eq_true rfl) ?_
  refine mv_aload_n d_Reader_sum_0 rfl rfl ?_
  obtain ⟨_, b7, -⟩ := I0.1 _ _ h_o0
  refine mv_callV (kc' := 0) (ks' := 0) (As := []) (st9 := [.ref o0]) d_Reader_sum_1 lV_Reader_218 b7 rfl (tc_Reader_product_q1 (d := d) (x9 := x9) (o0 := o0) h_o0 (p := p) hO (by omega) I0.start) rfl (Nat.le_of_ble_eq_true rfl) (Nat.le_of_ble_eq_true rfl) (Nat.le_of_ble_eq_true rfl) (hst := rfl) (fun b1r M2 n3 b1 => ?_)
  obtain ⟨T4, J5, v8, rfl, b9, b10, o11⟩ := b1
  have I6 := I0.call J5 (tm_sub (by decide)) (Or.inl rfl)
  have t12 := J5.up h_o0
  have := mz_hi v8
  refine mv_if_neZ (tgt := 9) (a := v8.toInt) d_Reader_sum_4 (by decide) rfl (fun b13 => ?_) (fun b13 => ?_)
  · have q14 := o11 (by omega)
    refine mv_iconst (v := 0) d_Reader_sum_9 (by decide) ?_
    refine mv_istore_n (lv' := [(1, .int 0), (0, .ref o0)]) d_Reader_sum_10 rfl (by decide) rfl ?_
    have L11_15 : ∀ (k : Nat) (i1_15 : Int32) (T_15 : tm_H) (M_15 : mj_M) (n_15 : Nat), tm_I tm_FT (tm_in w_Reader_sum_q1) x9 T0 M0 n0 T_15 M_15 n_15 → T_15 o0 = some (0, 9, 0) → 0 ≤ i1_15.toInt → tm_at M_15 o0 9 16 (.int p) → 2147483647 - i1_15.toInt < (k : Int) → mj_V g l kY_Reader_sum (d + 7) 11 [(1, .int i1_15), (0, .ref o0)] [] M_15 n_15 0 0 (tm_Q tm_FT (tm_in w_Reader_sum_q1) x9 T0 M0 n0 (fun r _ M => ∃ v : Int32, r = some (.int v) ∧ 0 ≤ v.toInt ∧ v.toInt ≤ 1 ∧ (v.toInt = 1 → tm_at M o0 9 16 (.int p)))) := by
      intro k15
      induction k15 with
      | zero =>
        intro i1_15 T_15 M_15 n_15 I_15 h_q0_15 iv0_15 kp0_15 hk15
        have := mz_hi i1_15
        omega
      | succ k15 ih15 =>
        intro i1_15 T_15 M_15 n_15 I_15 h_q0_15 iv0_15 kp0_15 hk15
        refine mv_iload_n d_Reader_sum_11 rfl rfl ?_
        refine mv_sipush (v := 400) d_Reader_sum_12 (by decide) ?_
        have := mz_hi i1_15
        refine mv_icmp_geZ (tgt := 76) (a := i1_15.toInt) (b := 400) d_Reader_sum_15 (by decide) rfl (by decide) (fun b16 => ?_) (fun b16 => ?_)
        · refine mv_iconst (v := 1) d_Reader_sum_76 (by decide) ?_
          exact mv_iret d_Reader_sum_77 rfl (by decide) ⟨_, I_15, _, rfl, by decide, by decide, fun _ => kp0_15⟩
        · refine mv_aload_n d_Reader_sum_18 rfl rfl ?_
          refine mv_bipush (v := 43) d_Reader_sum_19 (by decide) ?_
          obtain ⟨_, b23, -⟩ := I_15.1 _ _ h_q0_15
          refine mv_callV (kc' := 0) (ks' := 0) (As := [.int 43]) (st9 := [.int 43, .ref o0]) d_Reader_sum_21 lV_Reader_209 b23 rfl (tc_Reader_isSign (d := (d + 6)) (x9 := x9) (o0 := o0) (x1 := 43) h_q0_15 I_15.start) rfl (Nat.le_of_ble_eq_true rfl) (Nat.le_of_ble_eq_true rfl) (Nat.le_of_ble_eq_true rfl) (hst := rfl) (fun b17r M18 n19 b17 => ?_)
          obtain ⟨T20, J21, v24, rfl, b25, b26⟩ := b17
          have I22 := I_15.call J21 (tm_sub (by decide)) (Or.inl rfl)
          have t27 := J21.up h_q0_15
          have q28 := J21.keep h_q0_15 (by decide) kp0_15
          have := mz_hi v24
          refine mv_if_neZ (tgt := 36) (a := v24.toInt) d_Reader_sum_24 (by decide) rfl (fun b29 => ?_) (fun b29 => ?_)
          · refine mv_aload_n d_Reader_sum_36 rfl rfl ?_
            refine mv_bipush (v := 43) d_Reader_sum_37 (by decide) ?_
            obtain ⟨_, b36, -⟩ := I22.1 _ _ t27
            refine mv_callV (kc' := 0) (ks' := 0) (As := [.int 43]) (st9 := [.int 43, .ref o0]) d_Reader_sum_39 lV_Reader_209 b36 rfl (tc_Reader_isSign (d := (d + 6)) (x9 := x9) (o0 := o0) (x1 := 43) t27 I22.start) rfl (Nat.le_of_ble_eq_true rfl) (Nat.le_of_ble_eq_true rfl) (Nat.le_of_ble_eq_true rfl) (hst := rfl) (fun b30r M31 n32 b30 => ?_)
            obtain ⟨T33, J34, v37, rfl, b38, b39⟩ := b30
            have I35 := I22.call J34 (tm_sub (by decide)) (Or.inl rfl)
            have t40 := J34.up t27
            have q41 := J34.keep t27 (by decide) q28
            have := mz_hi v37
            refine mv_if_eqZ (tgt := 49) (a := v37.toInt) d_Reader_sum_42 (by decide) rfl (fun b42 => ?_) (fun b42 => ?_)
            · refine mv_iconst (v := 3) d_Reader_sum_49 (by decide) ?_
              refine mv_istore_n (lv' := [(2, .int 3), (1, .int i1_15), (0, .ref o0)]) d_Reader_sum_50 rfl (by decide) rfl ?_
              refine mv_aload_n d_Reader_sum_51 rfl rfl ?_
              obtain ⟨_, b49, -⟩ := I35.1 _ _ t40
              refine mv_callV (kc' := 0) (ks' := 0) (As := []) (st9 := [.ref o0]) d_Reader_sum_52 lV_Reader_82 b49 rfl (tc_Reader_advance (d := (d + 6)) (x9 := x9) (o0 := o0) t40 I35.start) rfl (Nat.le_of_ble_eq_true rfl) (Nat.le_of_ble_eq_true rfl) (Nat.le_of_ble_eq_true rfl) (hst := rfl) (fun b43r M44 n45 b43 => ?_)
              obtain ⟨T46, J47, rfl⟩ := b43
              have I48 := I35.call J47 (tm_sub (by decide)) (Or.inl rfl)
              have t50 := J47.up t40
              have q51 := J47.keep t40 (by decide) q41
              refine mv_aload_n d_Reader_sum_55 rfl rfl ?_
              obtain ⟨_, b58, -⟩ := I48.1 _ _ t50
              refine mv_callV (kc' := 0) (ks' := 0) (As := []) (st9 := [.ref o0]) d_Reader_sum_56 lV_Reader_218 b58 rfl (tc_Reader_product_q1 (d := d) (x9 := x9) (o0 := o0) t50 (p := p) q51 (by omega) I48.start) rfl (Nat.le_of_ble_eq_true rfl) (Nat.le_of_ble_eq_true rfl) (Nat.le_of_ble_eq_true rfl) (hst := rfl) (fun b52r M53 n54 b52 => ?_)
              obtain ⟨T55, J56, v59, rfl, b60, b61, o62⟩ := b52
              have I57 := I48.call J56 (tm_sub (by decide)) (Or.inl rfl)
              have t63 := J56.up t50
              have := mz_hi v59
              refine mv_if_neZ (tgt := 64) (a := v59.toInt) d_Reader_sum_59 (by decide) rfl (fun b64 => ?_) (fun b64 => ?_)
              · have q65 := o62 (by omega)
                refine mv_aload_n d_Reader_sum_64 rfl rfl ?_
                refine mv_iload_n d_Reader_sum_65 rfl rfl ?_
                refine mv_iconst (v := 0) d_Reader_sum_66 (by decide) ?_
                obtain ⟨_, b72, -⟩ := I57.1 _ _ t63
                refine mv_callV (kc' := 0) (ks' := 0) (As := [.int 3, .int 0]) (st9 := [.int 0, .int 3, .ref o0]) d_Reader_sum_67 lV_Reader_203 b72 rfl (tc_Reader_emit (d := (d + 6)) (x9 := x9) (o0 := o0) (x1 := 3) (x2 := 0) t63 I57.start) rfl (Nat.le_of_ble_eq_true rfl) (Nat.le_of_ble_eq_true rfl) (Nat.le_of_ble_eq_true rfl) (hst := rfl) (fun b66r M67 n68 b66 => ?_)
                obtain ⟨T69, J70, rfl⟩ := b66
                have I71 := I57.call J70 (tm_sub (by decide)) (Or.inl rfl)
                have t73 := J70.up t63
                have q74 := J70.keep t63 (by decide) q65
                refine mv_iinc (v := (i1_15 + 1)) (lv' := [(1, .int (i1_15 + 1)), (2, .int 3), (0, .ref o0)]) d_Reader_sum_70 rfl rfl (by decide) rfl ?_
                refine mv_goto (tgt := 11) d_Reader_sum_73 (by decide) ?_
                refine mv_locals (lv' := [(1, .int (i1_15 + 1)), (0, .ref o0)]) (by intro q hq; simp only [List.mem_cons, List.not_mem_nil, or_false] at hq; rcases hq with rfl | rfl <;> rfl) ?_
                have b75 : (i1_15 + 1).toInt = i1_15.toInt + 1 := mz_addn 1 1 (by decide) (by have := mz_lo i1_15; omega) (by have := mz_hi i1_15; omega)
                exact (ih15 (i1_15 + 1) T69 M67 n68 I71 t73 (by first | omega | decide) q74 (by omega))
              · refine mv_iconst (v := 0) d_Reader_sum_62 (by decide) ?_
                exact mv_iret d_Reader_sum_63 rfl (by decide) ⟨_, I57, _, rfl, by decide, by decide, fun h => absurd h (by decide)⟩
            · refine mv_iconst (v := 2) d_Reader_sum_45 (by decide) ?_
              refine mv_goto (tgt := 50) d_Reader_sum_46 (by decide) ?_
              refine mv_istore_n (lv' := [(2, .int 2), (1, .int i1_15), (0, .ref o0)]) d_Reader_sum_50 rfl (by decide) rfl ?_
              refine mv_aload_n d_Reader_sum_51 rfl rfl ?_
              obtain ⟨_, b82, -⟩ := I35.1 _ _ t40
              refine mv_callV (kc' := 0) (ks' := 0) (As := []) (st9 := [.ref o0]) d_Reader_sum_52 lV_Reader_82 b82 rfl (tc_Reader_advance (d := (d + 6)) (x9 := x9) (o0 := o0) t40 I35.start) rfl (Nat.le_of_ble_eq_true rfl) (Nat.le_of_ble_eq_true rfl) (Nat.le_of_ble_eq_true rfl) (hst := rfl) (fun b76r M77 n78 b76 => ?_)
              obtain ⟨T79, J80, rfl⟩ := b76
              have I81 := I35.call J80 (tm_sub (by decide)) (Or.inl rfl)
              have t83 := J80.up t40
              have q84 := J80.keep t40 (by decide) q41
              refine mv_aload_n d_Reader_sum_55 rfl rfl ?_
              obtain ⟨_, b91, -⟩ := I81.1 _ _ t83
              refine mv_callV (kc' := 0) (ks' := 0) (As := []) (st9 := [.ref o0]) d_Reader_sum_56 lV_Reader_218 b91 rfl (tc_Reader_product_q1 (d := d) (x9 := x9) (o0 := o0) t83 (p := p) q84 (by omega) I81.start) rfl (Nat.le_of_ble_eq_true rfl) (Nat.le_of_ble_eq_true rfl) (Nat.le_of_ble_eq_true rfl) (hst := rfl) (fun b85r M86 n87 b85 => ?_)
              obtain ⟨T88, J89, v92, rfl, b93, b94, o95⟩ := b85
              have I90 := I81.call J89 (tm_sub (by decide)) (Or.inl rfl)
              have t96 := J89.up t83
              have := mz_hi v92
              refine mv_if_neZ (tgt := 64) (a := v92.toInt) d_Reader_sum_59 (by decide) rfl (fun b97 => ?_) (fun b97 => ?_)
              · have q98 := o95 (by omega)
                refine mv_aload_n d_Reader_sum_64 rfl rfl ?_
                refine mv_iload_n d_Reader_sum_65 rfl rfl ?_
                refine mv_iconst (v := 0) d_Reader_sum_66 (by decide) ?_
                obtain ⟨_, b105, -⟩ := I90.1 _ _ t96
                refine mv_callV (kc' := 0) (ks' := 0) (As := [.int 2, .int 0]) (st9 := [.int 0, .int 2, .ref o0]) d_Reader_sum_67 lV_Reader_203 b105 rfl (tc_Reader_emit (d := (d + 6)) (x9 := x9) (o0 := o0) (x1 := 2) (x2 := 0) t96 I90.start) rfl (Nat.le_of_ble_eq_true rfl) (Nat.le_of_ble_eq_true rfl) (Nat.le_of_ble_eq_true rfl) (hst := rfl) (fun b99r M100 n101 b99 => ?_)
                obtain ⟨T102, J103, rfl⟩ := b99
                have I104 := I90.call J103 (tm_sub (by decide)) (Or.inl rfl)
                have t106 := J103.up t96
                have q107 := J103.keep t96 (by decide) q98
                refine mv_iinc (v := (i1_15 + 1)) (lv' := [(1, .int (i1_15 + 1)), (2, .int 2), (0, .ref o0)]) d_Reader_sum_70 rfl rfl (by decide) rfl ?_
                refine mv_goto (tgt := 11) d_Reader_sum_73 (by decide) ?_
                refine mv_locals (lv' := [(1, .int (i1_15 + 1)), (0, .ref o0)]) (by intro q hq; simp only [List.mem_cons, List.not_mem_nil, or_false] at hq; rcases hq with rfl | rfl <;> rfl) ?_
                have b108 : (i1_15 + 1).toInt = i1_15.toInt + 1 := mz_addn 1 1 (by decide) (by have := mz_lo i1_15; omega) (by have := mz_hi i1_15; omega)
                exact (ih15 (i1_15 + 1) T102 M100 n101 I104 t106 (by first | omega | decide) q107 (by omega))
              · refine mv_iconst (v := 0) d_Reader_sum_62 (by decide) ?_
                exact mv_iret d_Reader_sum_63 rfl (by decide) ⟨_, I90, _, rfl, by decide, by decide, fun h => absurd h (by decide)⟩
          · refine mv_aload_n d_Reader_sum_27 rfl rfl ?_
            refine mv_bipush (v := 45) d_Reader_sum_28 (by decide) ?_
            obtain ⟨_, b115, -⟩ := I22.1 _ _ t27
            refine mv_callV (kc' := 0) (ks' := 0) (As := [.int 45]) (st9 := [.int 45, .ref o0]) d_Reader_sum_30 lV_Reader_209 b115 rfl (tc_Reader_isSign (d := (d + 6)) (x9 := x9) (o0 := o0) (x1 := 45) t27 I22.start) rfl (Nat.le_of_ble_eq_true rfl) (Nat.le_of_ble_eq_true rfl) (Nat.le_of_ble_eq_true rfl) (hst := rfl) (fun b109r M110 n111 b109 => ?_)
            obtain ⟨T112, J113, v116, rfl, b117, b118⟩ := b109
            have I114 := I22.call J113 (tm_sub (by decide)) (Or.inl rfl)
            have t119 := J113.up t27
            have q120 := J113.keep t27 (by decide) q28
            have := mz_hi v116
            refine mv_if_eqZ (tgt := 76) (a := v116.toInt) d_Reader_sum_33 (by decide) rfl (fun b121 => ?_) (fun b121 => ?_)
            · refine mv_iconst (v := 1) d_Reader_sum_76 (by decide) ?_
              exact mv_iret d_Reader_sum_77 rfl (by decide) ⟨_, I114, _, rfl, by decide, by decide, fun _ => q120⟩
            · refine mv_aload_n d_Reader_sum_36 rfl rfl ?_
              refine mv_bipush (v := 43) d_Reader_sum_37 (by decide) ?_
              obtain ⟨_, b128, -⟩ := I114.1 _ _ t119
              refine mv_callV (kc' := 0) (ks' := 0) (As := [.int 43]) (st9 := [.int 43, .ref o0]) d_Reader_sum_39 lV_Reader_209 b128 rfl (tc_Reader_isSign (d := (d + 6)) (x9 := x9) (o0 := o0) (x1 := 43) t119 I114.start) rfl (Nat.le_of_ble_eq_true rfl) (Nat.le_of_ble_eq_true rfl) (Nat.le_of_ble_eq_true rfl) (hst := rfl) (fun b122r M123 n124 b122 => ?_)
              obtain ⟨T125, J126, v129, rfl, b130, b131⟩ := b122
              have I127 := I114.call J126 (tm_sub (by decide)) (Or.inl rfl)
              have t132 := J126.up t119
              have q133 := J126.keep t119 (by decide) q120
              have := mz_hi v129
              refine mv_if_eqZ (tgt := 49) (a := v129.toInt) d_Reader_sum_42 (by decide) rfl (fun b134 => ?_) (fun b134 => ?_)
              · refine mv_iconst (v := 3) d_Reader_sum_49 (by decide) ?_
                refine mv_istore_n (lv' := [(2, .int 3), (1, .int i1_15), (0, .ref o0)]) d_Reader_sum_50 rfl (by decide) rfl ?_
                refine mv_aload_n d_Reader_sum_51 rfl rfl ?_
                obtain ⟨_, b141, -⟩ := I127.1 _ _ t132
                refine mv_callV (kc' := 0) (ks' := 0) (As := []) (st9 := [.ref o0]) d_Reader_sum_52 lV_Reader_82 b141 rfl (tc_Reader_advance (d := (d + 6)) (x9 := x9) (o0 := o0) t132 I127.start) rfl (Nat.le_of_ble_eq_true rfl) (Nat.le_of_ble_eq_true rfl) (Nat.le_of_ble_eq_true rfl) (hst := rfl) (fun b135r M136 n137 b135 => ?_)
                obtain ⟨T138, J139, rfl⟩ := b135
                have I140 := I127.call J139 (tm_sub (by decide)) (Or.inl rfl)
                have t142 := J139.up t132
                have q143 := J139.keep t132 (by decide) q133
                refine mv_aload_n d_Reader_sum_55 rfl rfl ?_
                obtain ⟨_, b150, -⟩ := I140.1 _ _ t142
                refine mv_callV (kc' := 0) (ks' := 0) (As := []) (st9 := [.ref o0]) d_Reader_sum_56 lV_Reader_218 b150 rfl (tc_Reader_product_q1 (d := d) (x9 := x9) (o0 := o0) t142 (p := p) q143 (by omega) I140.start) rfl (Nat.le_of_ble_eq_true rfl) (Nat.le_of_ble_eq_true rfl) (Nat.le_of_ble_eq_true rfl) (hst := rfl) (fun b144r M145 n146 b144 => ?_)
                obtain ⟨T147, J148, v151, rfl, b152, b153, o154⟩ := b144
                have I149 := I140.call J148 (tm_sub (by decide)) (Or.inl rfl)
                have t155 := J148.up t142
                have := mz_hi v151
                refine mv_if_neZ (tgt := 64) (a := v151.toInt) d_Reader_sum_59 (by decide) rfl (fun b156 => ?_) (fun b156 => ?_)
                · have q157 := o154 (by omega)
                  refine mv_aload_n d_Reader_sum_64 rfl rfl ?_
                  refine mv_iload_n d_Reader_sum_65 rfl rfl ?_
                  refine mv_iconst (v := 0) d_Reader_sum_66 (by decide) ?_
                  obtain ⟨_, b164, -⟩ := I149.1 _ _ t155
                  refine mv_callV (kc' := 0) (ks' := 0) (As := [.int 3, .int 0]) (st9 := [.int 0, .int 3, .ref o0]) d_Reader_sum_67 lV_Reader_203 b164 rfl (tc_Reader_emit (d := (d + 6)) (x9 := x9) (o0 := o0) (x1 := 3) (x2 := 0) t155 I149.start) rfl (Nat.le_of_ble_eq_true rfl) (Nat.le_of_ble_eq_true rfl) (Nat.le_of_ble_eq_true rfl) (hst := rfl) (fun b158r M159 n160 b158 => ?_)
                  obtain ⟨T161, J162, rfl⟩ := b158
                  have I163 := I149.call J162 (tm_sub (by decide)) (Or.inl rfl)
                  have t165 := J162.up t155
                  have q166 := J162.keep t155 (by decide) q157
                  refine mv_iinc (v := (i1_15 + 1)) (lv' := [(1, .int (i1_15 + 1)), (2, .int 3), (0, .ref o0)]) d_Reader_sum_70 rfl rfl (by decide) rfl ?_
                  refine mv_goto (tgt := 11) d_Reader_sum_73 (by decide) ?_
                  refine mv_locals (lv' := [(1, .int (i1_15 + 1)), (0, .ref o0)]) (by intro q hq; simp only [List.mem_cons, List.not_mem_nil, or_false] at hq; rcases hq with rfl | rfl <;> rfl) ?_
                  have b167 : (i1_15 + 1).toInt = i1_15.toInt + 1 := mz_addn 1 1 (by decide) (by have := mz_lo i1_15; omega) (by have := mz_hi i1_15; omega)
                  exact (ih15 (i1_15 + 1) T161 M159 n160 I163 t165 (by first | omega | decide) q166 (by omega))
                · refine mv_iconst (v := 0) d_Reader_sum_62 (by decide) ?_
                  exact mv_iret d_Reader_sum_63 rfl (by decide) ⟨_, I149, _, rfl, by decide, by decide, fun h => absurd h (by decide)⟩
              · refine mv_iconst (v := 2) d_Reader_sum_45 (by decide) ?_
                refine mv_goto (tgt := 50) d_Reader_sum_46 (by decide) ?_
                refine mv_istore_n (lv' := [(2, .int 2), (1, .int i1_15), (0, .ref o0)]) d_Reader_sum_50 rfl (by decide) rfl ?_
                refine mv_aload_n d_Reader_sum_51 rfl rfl ?_
                obtain ⟨_, b174, -⟩ := I127.1 _ _ t132
                refine mv_callV (kc' := 0) (ks' := 0) (As := []) (st9 := [.ref o0]) d_Reader_sum_52 lV_Reader_82 b174 rfl (tc_Reader_advance (d := (d + 6)) (x9 := x9) (o0 := o0) t132 I127.start) rfl (Nat.le_of_ble_eq_true rfl) (Nat.le_of_ble_eq_true rfl) (Nat.le_of_ble_eq_true rfl) (hst := rfl) (fun b168r M169 n170 b168 => ?_)
                obtain ⟨T171, J172, rfl⟩ := b168
                have I173 := I127.call J172 (tm_sub (by decide)) (Or.inl rfl)
                have t175 := J172.up t132
                have q176 := J172.keep t132 (by decide) q133
                refine mv_aload_n d_Reader_sum_55 rfl rfl ?_
                obtain ⟨_, b183, -⟩ := I173.1 _ _ t175
                refine mv_callV (kc' := 0) (ks' := 0) (As := []) (st9 := [.ref o0]) d_Reader_sum_56 lV_Reader_218 b183 rfl (tc_Reader_product_q1 (d := d) (x9 := x9) (o0 := o0) t175 (p := p) q176 (by omega) I173.start) rfl (Nat.le_of_ble_eq_true rfl) (Nat.le_of_ble_eq_true rfl) (Nat.le_of_ble_eq_true rfl) (hst := rfl) (fun b177r M178 n179 b177 => ?_)
                obtain ⟨T180, J181, v184, rfl, b185, b186, o187⟩ := b177
                have I182 := I173.call J181 (tm_sub (by decide)) (Or.inl rfl)
                have t188 := J181.up t175
                have := mz_hi v184
                refine mv_if_neZ (tgt := 64) (a := v184.toInt) d_Reader_sum_59 (by decide) rfl (fun b189 => ?_) (fun b189 => ?_)
                · have q190 := o187 (by omega)
                  refine mv_aload_n d_Reader_sum_64 rfl rfl ?_
                  refine mv_iload_n d_Reader_sum_65 rfl rfl ?_
                  refine mv_iconst (v := 0) d_Reader_sum_66 (by decide) ?_
                  obtain ⟨_, b197, -⟩ := I182.1 _ _ t188
                  refine mv_callV (kc' := 0) (ks' := 0) (As := [.int 2, .int 0]) (st9 := [.int 0, .int 2, .ref o0]) d_Reader_sum_67 lV_Reader_203 b197 rfl (tc_Reader_emit (d := (d + 6)) (x9 := x9) (o0 := o0) (x1 := 2) (x2 := 0) t188 I182.start) rfl (Nat.le_of_ble_eq_true rfl) (Nat.le_of_ble_eq_true rfl) (Nat.le_of_ble_eq_true rfl) (hst := rfl) (fun b191r M192 n193 b191 => ?_)
                  obtain ⟨T194, J195, rfl⟩ := b191
                  have I196 := I182.call J195 (tm_sub (by decide)) (Or.inl rfl)
                  have t198 := J195.up t188
                  have q199 := J195.keep t188 (by decide) q190
                  refine mv_iinc (v := (i1_15 + 1)) (lv' := [(1, .int (i1_15 + 1)), (2, .int 2), (0, .ref o0)]) d_Reader_sum_70 rfl rfl (by decide) rfl ?_
                  refine mv_goto (tgt := 11) d_Reader_sum_73 (by decide) ?_
                  refine mv_locals (lv' := [(1, .int (i1_15 + 1)), (0, .ref o0)]) (by intro q hq; simp only [List.mem_cons, List.not_mem_nil, or_false] at hq; rcases hq with rfl | rfl <;> rfl) ?_
                  have b200 : (i1_15 + 1).toInt = i1_15.toInt + 1 := mz_addn 1 1 (by decide) (by have := mz_lo i1_15; omega) (by have := mz_hi i1_15; omega)
                  exact (ih15 (i1_15 + 1) T194 M192 n193 I196 t198 (by first | omega | decide) q199 (by omega))
                · refine mv_iconst (v := 0) d_Reader_sum_62 (by decide) ?_
                  exact mv_iret d_Reader_sum_63 rfl (by decide) ⟨_, I182, _, rfl, by decide, by decide, fun h => absurd h (by decide)⟩
    exact mv_less (Nat.zero_le _) (Nat.zero_le _) (L11_15 4294967296 0 T4 M2 n3 I6 t12 (by first | omega | decide) q14 (by show (2147483647 - (0 : Int) : Int) < _; decide))
  · refine mv_iconst (v := 0) d_Reader_sum_7 (by decide) ?_
    exact mv_iret d_Reader_sum_8 rfl (by decide) ⟨_, I6, _, rfl, by decide, by decide, fun h => absurd h (by decide)⟩
def w_Reader_factor_q2 : List Nat := [901, 902, 909, 910, 911, 912, 913, 914, 916, 918, 967]
theorem tc_Reader_factor_q2 {g : mj_G} {l : Launch} {d : Nat} {T0 : tm_H} {M0 : mj_M} {n0 x9 : Nat} {o0 : Nat} (h_o0 : T0 o0 = some (0, 9, 0)) {p : Int32} (hO : tm_at M0 o0 9 16 (.int p)) (hp : 2 ≤ p.toInt) (I0 : tm_I tm_FT (tm_in w_Reader_factor_q2) x9 T0 M0 n0 T0 M0 n0) : mj_Met g l kY_Reader_factor (d + 8) [.ref o0] M0 n0 0 0 (tm_Q tm_FT (tm_in w_Reader_factor_q2) x9 T0 M0 n0 (fun r _ M => ∃ v : Int32, r = some (.int v) ∧ 0 ≤ v.toInt ∧ v.toInt ≤ 1 ∧ (v.toInt = 1 → tm_at M o0 9 16 (.int p)))) := by
  refine mj_enter (by decide) (Nat.le_of_ble_eq_true rfl) ?_
  refine mv_aload_n d_Reader_factor_0 rfl rfl ?_
  obtain ⟨v2, q1⟩ := tm_atI I0 h_o0 (k := 10) rfl
  refine tr_getK q1 d_Reader_factor_1 f_Reader_41_9 ?_
  refine mv_iconst (v := 2) d_Reader_factor_4 (by decide) ?_
  have := mz_hi v2
  refine mv_icmp_neZ (tgt := 32) (a := v2.toInt) (b := 2) d_Reader_factor_5 (by decide) rfl (by decide) (fun b3 => ?_) (fun b3 => ?_)
  · refine mv_aload_n d_Reader_factor_32 rfl rfl ?_
    refine tr_getK (k := 10) q1 d_Reader_factor_33 f_Reader_41_9 ?_
    refine mv_iconst (v := 1) d_Reader_factor_36 (by decide) ?_
    have := mz_hi v2
    refine mv_icmp_neZ (tgt := 73) (a := v2.toInt) (b := 1) d_Reader_factor_37 (by decide) rfl (by decide) (fun b4 => ?_) (fun b4 => ?_)
    · refine mv_aload_n d_Reader_factor_73 rfl rfl ?_
      refine mv_bipush (v := 40) d_Reader_factor_74 (by decide) ?_
      obtain ⟨_, b11, -⟩ := I0.1 _ _ h_o0
      refine mv_callV (kc' := 0) (ks' := 0) (As := [.int 40]) (st9 := [.int 40, .ref o0]) d_Reader_factor_76 lV_Reader_209 b11 rfl (tc_Reader_isSign (d := (d + 7)) (x9 := x9) (o0 := o0) (x1 := 40) h_o0 I0.start) rfl (Nat.le_of_ble_eq_true rfl) (Nat.le_of_ble_eq_true rfl) (Nat.le_of_ble_eq_true rfl) (hst := rfl) (fun b5r M6 n7 b5 => ?_)
      obtain ⟨T8, J9, v12, rfl, b13, b14⟩ := b5
      have I10 := I0.call J9 (tm_sub (by decide)) (Or.inl rfl)
      have t15 := J9.up h_o0
      have q16 := J9.keep h_o0 (by decide) hO
      have q17 := J9.keep h_o0 (by decide) q1
      have := mz_hi v12
      refine mv_if_neZ (tgt := 88) (a := v12.toInt) d_Reader_factor_79 (by decide) rfl (fun b18 => ?_) (fun b18 => ?_)
      · refine mv_aload_n d_Reader_factor_88 rfl rfl ?_
        obtain ⟨_, b25, -⟩ := I10.1 _ _ t15
        refine mv_callV (kc' := 0) (ks' := 0) (As := []) (st9 := [.ref o0]) d_Reader_factor_89 lV_Reader_212 b25 rfl (tc_Reader_openBracket_q2 (d := (d + 6)) (x9 := x9) (o0 := o0) t15 (p := p) q16 (by omega) I10.start) rfl (Nat.le_of_ble_eq_true rfl) (Nat.le_of_ble_eq_true rfl) (Nat.le_of_ble_eq_true rfl) (hst := rfl) (fun b19r M20 n21 b19 => ?_)
        obtain ⟨T22, J23, v26, rfl, b27, b28, o29⟩ := b19
        have I24 := I10.call J23 (tm_sub (by decide)) (Or.inl rfl)
        have t30 := J23.up t15
        have := mz_hi v26
        refine mv_if_eqZ (tgt := 102) (a := v26.toInt) d_Reader_factor_92 (by decide) rfl (fun b31 => ?_) (fun b31 => ?_)
        · refine mv_iconst (v := 0) d_Reader_factor_102 (by decide) ?_
          exact mv_iret d_Reader_factor_103 rfl (by decide) ⟨_, I24, _, rfl, by decide, by decide, fun h => absurd h (by decide)⟩
        · obtain ⟨b33, q32⟩ := o29 (by omega)
          have b34 : (p + 1).toInt = p.toInt + 1 := mz_addn 1 1 (by decide) (by have := mz_lo p; omega) (by have := mz_hi p; omega)
          refine mv_aload_n d_Reader_factor_95 rfl rfl ?_
          obtain ⟨_, b41, -⟩ := I24.1 _ _ t30
          refine mv_callV (kc' := 0) (ks' := 0) (As := []) (st9 := [.ref o0]) d_Reader_factor_96 lV_Reader_186 b41 rfl (tc_Reader_sum_q1 (d := d) (x9 := x9) (o0 := o0) t30 (p := (p + 1)) q32 (by omega) I24.start) rfl (Nat.le_of_ble_eq_true rfl) (Nat.le_of_ble_eq_true rfl) (Nat.le_of_ble_eq_true rfl) (hst := rfl) (fun b35r M36 n37 b35 => ?_)
          obtain ⟨T38, J39, v42, rfl, b43, b44, o45⟩ := b35
          have I40 := I24.call J39 (tm_sub (by decide)) (Or.inl rfl)
          have t46 := J39.up t30
          have := mz_hi v42
          refine mv_if_neZ (tgt := 104) (a := v42.toInt) d_Reader_factor_99 (by decide) rfl (fun b47 => ?_) (fun b47 => ?_)
          · have q48 := o45 (by omega)
            refine mv_aload_n d_Reader_factor_104 rfl rfl ?_
            refine mv_dup d_Reader_factor_105 rfl ?_
            refine tr_getK (k := 16) q48 d_Reader_factor_106 f_Reader_73_9 ?_
            refine mv_iconst (v := 1) d_Reader_factor_109 (by decide) ?_
            refine mv_isubv (v := p) d_Reader_factor_110 (Int32.add_sub_cancel _ _) ?_
            refine tr_putK tm_okF I40 t46 (k := 16) rfl ⟨_, rfl⟩ (Or.inl (by decide)) d_Reader_factor_111 p_Reader_73_9 rfl rfl (fun M49 I50 q51 K52 => ?_)
            refine mv_aload_n d_Reader_factor_114 rfl rfl ?_
            refine mv_bipush (v := 41) d_Reader_factor_115 (by decide) ?_
            obtain ⟨_, b59, -⟩ := I50.1 _ _ t46
            refine mv_callV (kc' := 0) (ks' := 0) (As := [.int 41]) (st9 := [.int 41, .ref o0]) d_Reader_factor_117 lV_Reader_63 b59 rfl (tc_Reader_sign (d := (d + 6)) (x9 := x9) (o0 := o0) (x1 := 41) t46 I50.start) rfl (Nat.le_of_ble_eq_true rfl) (Nat.le_of_ble_eq_true rfl) (Nat.le_of_ble_eq_true rfl) (hst := rfl) (fun b53r M54 n55 b53 => ?_)
            obtain ⟨T56, J57, v60, rfl, b61, b62⟩ := b53
            have I58 := I50.call J57 (tm_sub (by decide)) (Or.inl rfl)
            have t63 := J57.up t46
            have q64 := J57.keep t46 (by decide) q51
            exact mv_iret d_Reader_factor_120 rfl (mz_nb (by omega) (by omega)) ⟨_, I58, _, rfl, by omega, by omega, fun _ => q64⟩
          · refine mv_iconst (v := 0) d_Reader_factor_102 (by decide) ?_
            exact mv_iret d_Reader_factor_103 rfl (by decide) ⟨_, I40, _, rfl, by decide, by decide, fun h => absurd h (by decide)⟩
      · refine mv_aload_n d_Reader_factor_82 rfl rfl ?_
        refine mv_iconst (v := 1) d_Reader_factor_83 (by decide) ?_
        obtain ⟨_, b71, -⟩ := I10.1 _ _ t15
        refine mv_callV (kc' := 0) (ks' := 0) (As := [.int 1]) (st9 := [.int 1, .ref o0]) d_Reader_factor_84 lV_Reader_56 b71 rfl (tc_Reader_refuse (d := (d + 7)) (x9 := x9) (o0 := o0) (x1 := 1) t15 I10.start) rfl (Nat.le_of_ble_eq_true rfl) (Nat.le_of_ble_eq_true rfl) (Nat.le_of_ble_eq_true rfl) (hst := rfl) (fun b65r M66 n67 b65 => ?_)
        obtain ⟨T68, J69, rfl⟩ := b65
        have I70 := I10.call J69 (tm_sub (by decide)) (Or.inl rfl)
        have t72 := J69.up t15
        have q73 := J69.keep t15 (by decide) q16
        have q74 := J69.keep t15 (by decide) q17
        exact mv_iret d_Reader_factor_87 rfl (by decide) ⟨_, I70, _, rfl, by decide, by decide, fun h => absurd h (by decide)⟩
    · refine mv_aload_n d_Reader_factor_40 rfl rfl ?_
      refine mv_iconst (v := 0) d_Reader_factor_41 (by decide) ?_
      refine mv_aload_n d_Reader_factor_42 rfl rfl ?_
      obtain ⟨v76, q75⟩ := tm_atI I0 h_o0 (k := 15) rfl
      refine tr_getK q75 d_Reader_factor_43 f_Reader_67_9 ?_
      obtain ⟨_, b83, -⟩ := I0.1 _ _ h_o0
      refine mv_callV (kc' := 0) (ks' := 0) (As := [.int 0, .int v76]) (st9 := [.int v76, .int 0, .ref o0]) d_Reader_factor_46 lV_Reader_85 b83 rfl (tc_Reader_valueAmong (d := (d + 7)) (x9 := x9) (o0 := o0) (x1 := 0) (x2 := v76) h_o0 I0.start) rfl (Nat.le_of_ble_eq_true rfl) (Nat.le_of_ble_eq_true rfl) (Nat.le_of_ble_eq_true rfl) (hst := rfl) (fun b77r M78 n79 b77 => ?_)
      obtain ⟨T80, J81, v84, rfl⟩ := b77
      have I82 := I0.call J81 (tm_sub (by decide)) (Or.inl rfl)
      have t85 := J81.up h_o0
      have q86 := J81.keep h_o0 (by decide) hO
      have q87 := J81.keep h_o0 (by decide) q1
      have q88 := J81.keep h_o0 (by decide) q75
      refine mv_istore_n (lv' := [(1, .int v84), (0, .ref o0)]) d_Reader_factor_49 rfl (by decide) rfl ?_
      refine mv_iload_n d_Reader_factor_50 rfl rfl ?_
      refine mv_iconst (v := (-1)) d_Reader_factor_51 (by decide) ?_
      have := mz_hi v84
      refine mv_icmp_neZ (tgt := 61) (a := v84.toInt) (b := (-1)) d_Reader_factor_52 (by decide) rfl (by decide) (fun b89 => ?_) (fun b89 => ?_)
      · refine mv_aload_n d_Reader_factor_61 rfl rfl ?_
        refine mv_iconst (v := 1) d_Reader_factor_62 (by decide) ?_
        refine mv_iload_n d_Reader_factor_63 rfl rfl ?_
        obtain ⟨_, b96, -⟩ := I82.1 _ _ t85
        refine mv_callV (kc' := 0) (ks' := 0) (As := [.int 1, .int v84]) (st9 := [.int v84, .int 1, .ref o0]) d_Reader_factor_64 lV_Reader_203 b96 rfl (tc_Reader_emit (d := (d + 7)) (x9 := x9) (o0 := o0) (x1 := 1) (x2 := v84) t85 I82.start) rfl (Nat.le_of_ble_eq_true rfl) (Nat.le_of_ble_eq_true rfl) (Nat.le_of_ble_eq_true rfl) (hst := rfl) (fun b90r M91 n92 b90 => ?_)
        obtain ⟨T93, J94, rfl⟩ := b90
        have I95 := I82.call J94 (tm_sub (by decide)) (Or.inl rfl)
        have t97 := J94.up t85
        have q98 := J94.keep t85 (by decide) q86
        have q99 := J94.keep t85 (by decide) q87
        have q100 := J94.keep t85 (by decide) q88
        refine mv_aload_n d_Reader_factor_67 rfl rfl ?_
        obtain ⟨_, b107, -⟩ := I95.1 _ _ t97
        refine mv_callV (kc' := 0) (ks' := 0) (As := []) (st9 := [.ref o0]) d_Reader_factor_68 lV_Reader_82 b107 rfl (tc_Reader_advance (d := (d + 7)) (x9 := x9) (o0 := o0) t97 I95.start) rfl (Nat.le_of_ble_eq_true rfl) (Nat.le_of_ble_eq_true rfl) (Nat.le_of_ble_eq_true rfl) (hst := rfl) (fun b101r M102 n103 b101 => ?_)
        obtain ⟨T104, J105, rfl⟩ := b101
        have I106 := I95.call J105 (tm_sub (by decide)) (Or.inl rfl)
        have t108 := J105.up t97
        have q109 := J105.keep t97 (by decide) q98
        have q110 := J105.keep t97 (by decide) q100
        refine mv_iconst (v := 1) d_Reader_factor_71 (by decide) ?_
        exact mv_iret d_Reader_factor_72 rfl (by decide) ⟨_, I106, _, rfl, by decide, by decide, fun _ => q109⟩
      · refine mv_aload_n d_Reader_factor_55 rfl rfl ?_
        refine mv_iconst (v := 3) d_Reader_factor_56 (by decide) ?_
        obtain ⟨_, b117, -⟩ := I82.1 _ _ t85
        refine mv_callV (kc' := 0) (ks' := 0) (As := [.int 3]) (st9 := [.int 3, .ref o0]) d_Reader_factor_57 lV_Reader_56 b117 rfl (tc_Reader_refuse (d := (d + 7)) (x9 := x9) (o0 := o0) (x1 := 3) t85 I82.start) rfl (Nat.le_of_ble_eq_true rfl) (Nat.le_of_ble_eq_true rfl) (Nat.le_of_ble_eq_true rfl) (hst := rfl) (fun b111r M112 n113 b111 => ?_)
        obtain ⟨T114, J115, rfl⟩ := b111
        have I116 := I82.call J115 (tm_sub (by decide)) (Or.inl rfl)
        have t118 := J115.up t85
        have q119 := J115.keep t85 (by decide) q86
        have q120 := J115.keep t85 (by decide) q87
        have q121 := J115.keep t85 (by decide) q88
        exact mv_iret d_Reader_factor_60 rfl (by decide) ⟨_, I116, _, rfl, by decide, by decide, fun h => absurd h (by decide)⟩
  · refine mv_aload_n d_Reader_factor_8 rfl rfl ?_
    refine mv_iconst (v := 0) d_Reader_factor_9 (by decide) ?_
    refine mv_sipush (v := 9999) d_Reader_factor_10 (by decide) ?_
    obtain ⟨_, b128, -⟩ := I0.1 _ _ h_o0
    refine mv_callV (kc' := 0) (ks' := 0) (As := [.int 0, .int 9999]) (st9 := [.int 9999, .int 0, .ref o0]) d_Reader_factor_13 lV_Reader_107 b128 rfl (tc_Reader_numeral (d := (d + 6)) (x9 := x9) (o0 := o0) (x1 := 0) (x2 := 9999) h_o0 I0.start) rfl (Nat.le_of_ble_eq_true rfl) (Nat.le_of_ble_eq_true rfl) (Nat.le_of_ble_eq_true rfl) (hst := rfl) (fun b122r M123 n124 b122 => ?_)
    obtain ⟨T125, J126, v129, rfl, b130, b131⟩ := b122
    have I127 := I0.call J126 (tm_sub (by decide)) (Or.inl rfl)
    have t132 := J126.up h_o0
    have q133 := J126.keep h_o0 (by decide) hO
    have := mz_hi v129
    refine mv_if_neZ (tgt := 21) (a := v129.toInt) d_Reader_factor_16 (by decide) rfl (fun b134 => ?_) (fun b134 => ?_)
    · refine mv_aload_n d_Reader_factor_21 rfl rfl ?_
      refine mv_iconst (v := 0) d_Reader_factor_22 (by decide) ?_
      refine mv_aload_n d_Reader_factor_23 rfl rfl ?_
      obtain ⟨v136, q135⟩ := tm_atI I127 t132 (k := 14) rfl
      refine tr_getK q135 d_Reader_factor_24 f_Reader_111_9 ?_
      obtain ⟨_, b143, -⟩ := I127.1 _ _ t132
      refine mv_callV (kc' := 0) (ks' := 0) (As := [.int 0, .int v136]) (st9 := [.int v136, .int 0, .ref o0]) d_Reader_factor_27 lV_Reader_203 b143 rfl (tc_Reader_emit (d := (d + 7)) (x9 := x9) (o0 := o0) (x1 := 0) (x2 := v136) t132 I127.start) rfl (Nat.le_of_ble_eq_true rfl) (Nat.le_of_ble_eq_true rfl) (Nat.le_of_ble_eq_true rfl) (hst := rfl) (fun b137r M138 n139 b137 => ?_)
      obtain ⟨T140, J141, rfl⟩ := b137
      have I142 := I127.call J141 (tm_sub (by decide)) (Or.inl rfl)
      have t144 := J141.up t132
      have q145 := J141.keep t132 (by decide) q133
      have q146 := J141.keep t132 (by decide) q135
      refine mv_iconst (v := 1) d_Reader_factor_30 (by decide) ?_
      exact mv_iret d_Reader_factor_31 rfl (by decide) ⟨_, I142, _, rfl, by decide, by decide, fun _ => q145⟩
    · refine mv_iconst (v := 0) d_Reader_factor_19 (by decide) ?_
      exact mv_iret d_Reader_factor_20 rfl (by decide) ⟨_, I127, _, rfl, by decide, by decide, fun h => absurd h (by decide)⟩
def w_Reader_product_q2 : List Nat := [901, 902, 909, 910, 911, 912, 913, 914, 916, 918, 967]
theorem tc_Reader_product_q2 {g : mj_G} {l : Launch} {d : Nat} {T0 : tm_H} {M0 : mj_M} {n0 x9 : Nat} {o0 : Nat} (h_o0 : T0 o0 = some (0, 9, 0)) {p : Int32} (hO : tm_at M0 o0 9 16 (.int p)) (hp : 2 ≤ p.toInt) (I0 : tm_I tm_FT (tm_in w_Reader_product_q2) x9 T0 M0 n0 T0 M0 n0) : mj_Met g l kY_Reader_product (d + 9) [.ref o0] M0 n0 0 0 (tm_Q tm_FT (tm_in w_Reader_product_q2) x9 T0 M0 n0 (fun r _ M => ∃ v : Int32, r = some (.int v) ∧ 0 ≤ v.toInt ∧ v.toInt ≤ 1 ∧ (v.toInt = 1 → tm_at M o0 9 16 (.int p)))) := by
  refine mj_enter (by decide) (Nat.le_of_ble_eq_true rfl) ?_
  refine mv_aload_n d_Reader_product_0 rfl rfl ?_
  obtain ⟨_, b7, -⟩ := I0.1 _ _ h_o0
  refine mv_callV (kc' := 0) (ks' := 0) (As := []) (st9 := [.ref o0]) d_Reader_product_1 lV_Reader_221 b7 rfl (tc_Reader_factor_q2 (d := d) (x9 := x9) (o0 := o0) h_o0 (p := p) hO (by omega) I0.start) rfl (Nat.le_of_ble_eq_true rfl) (Nat.le_of_ble_eq_true rfl) (Nat.le_of_ble_eq_true rfl) (hst := rfl) (fun b1r M2 n3 b1 => ?_)
  obtain ⟨T4, J5, v8, rfl, b9, b10, o11⟩ := b1
  have I6 := I0.call J5 (tm_sub (by decide)) (Or.inl rfl)
  have t12 := J5.up h_o0
  have := mz_hi v8
  refine mv_if_neZ (tgt := 9) (a := v8.toInt) d_Reader_product_4 (by decide) rfl (fun b13 => ?_) (fun b13 => ?_)
  · have q14 := o11 (by omega)
    refine mv_iconst (v := 0) d_Reader_product_9 (by decide) ?_
    refine mv_istore_n (lv' := [(1, .int 0), (0, .ref o0)]) d_Reader_product_10 rfl (by decide) rfl ?_
    have L11_15 : ∀ (k : Nat) (i1_15 : Int32) (T_15 : tm_H) (M_15 : mj_M) (n_15 : Nat), tm_I tm_FT (tm_in w_Reader_product_q2) x9 T0 M0 n0 T_15 M_15 n_15 → T_15 o0 = some (0, 9, 0) → 0 ≤ i1_15.toInt → tm_at M_15 o0 9 16 (.int p) → 2147483647 - i1_15.toInt < (k : Int) → mj_V g l kY_Reader_product (d + 9) 11 [(1, .int i1_15), (0, .ref o0)] [] M_15 n_15 0 0 (tm_Q tm_FT (tm_in w_Reader_product_q2) x9 T0 M0 n0 (fun r _ M => ∃ v : Int32, r = some (.int v) ∧ 0 ≤ v.toInt ∧ v.toInt ≤ 1 ∧ (v.toInt = 1 → tm_at M o0 9 16 (.int p)))) := by
      intro k15
      induction k15 with
      | zero =>
        intro i1_15 T_15 M_15 n_15 I_15 h_q0_15 iv0_15 kp0_15 hk15
        have := mz_hi i1_15
        omega
      | succ k15 ih15 =>
        intro i1_15 T_15 M_15 n_15 I_15 h_q0_15 iv0_15 kp0_15 hk15
        refine mv_iload_n d_Reader_product_11 rfl rfl ?_
        refine mv_sipush (v := 400) d_Reader_product_12 (by decide) ?_
        have := mz_hi i1_15
        refine mv_icmp_geZ (tgt := 52) (a := i1_15.toInt) (b := 400) d_Reader_product_15 (by decide) rfl (by decide) (fun b16 => ?_) (fun b16 => ?_)
        · refine mv_iconst (v := 1) d_Reader_product_52 (by decide) ?_
          exact mv_iret d_Reader_product_53 rfl (by decide) ⟨_, I_15, _, rfl, by decide, by decide, fun _ => kp0_15⟩
        · refine mv_aload_n d_Reader_product_18 rfl rfl ?_
          refine mv_bipush (v := 42) d_Reader_product_19 (by decide) ?_
          obtain ⟨_, b23, -⟩ := I_15.1 _ _ h_q0_15
          refine mv_callV (kc' := 0) (ks' := 0) (As := [.int 42]) (st9 := [.int 42, .ref o0]) d_Reader_product_21 lV_Reader_209 b23 rfl (tc_Reader_isSign (d := (d + 8)) (x9 := x9) (o0 := o0) (x1 := 42) h_q0_15 I_15.start) rfl (Nat.le_of_ble_eq_true rfl) (Nat.le_of_ble_eq_true rfl) (Nat.le_of_ble_eq_true rfl) (hst := rfl) (fun b17r M18 n19 b17 => ?_)
          obtain ⟨T20, J21, v24, rfl, b25, b26⟩ := b17
          have I22 := I_15.call J21 (tm_sub (by decide)) (Or.inl rfl)
          have t27 := J21.up h_q0_15
          have q28 := J21.keep h_q0_15 (by decide) kp0_15
          have := mz_hi v24
          refine mv_if_eqZ (tgt := 52) (a := v24.toInt) d_Reader_product_24 (by decide) rfl (fun b29 => ?_) (fun b29 => ?_)
          · refine mv_iconst (v := 1) d_Reader_product_52 (by decide) ?_
            exact mv_iret d_Reader_product_53 rfl (by decide) ⟨_, I22, _, rfl, by decide, by decide, fun _ => q28⟩
          · refine mv_aload_n d_Reader_product_27 rfl rfl ?_
            obtain ⟨_, b36, -⟩ := I22.1 _ _ t27
            refine mv_callV (kc' := 0) (ks' := 0) (As := []) (st9 := [.ref o0]) d_Reader_product_28 lV_Reader_82 b36 rfl (tc_Reader_advance (d := (d + 8)) (x9 := x9) (o0 := o0) t27 I22.start) rfl (Nat.le_of_ble_eq_true rfl) (Nat.le_of_ble_eq_true rfl) (Nat.le_of_ble_eq_true rfl) (hst := rfl) (fun b30r M31 n32 b30 => ?_)
            obtain ⟨T33, J34, rfl⟩ := b30
            have I35 := I22.call J34 (tm_sub (by decide)) (Or.inl rfl)
            have t37 := J34.up t27
            have q38 := J34.keep t27 (by decide) q28
            refine mv_aload_n d_Reader_product_31 rfl rfl ?_
            obtain ⟨_, b45, -⟩ := I35.1 _ _ t37
            refine mv_callV (kc' := 0) (ks' := 0) (As := []) (st9 := [.ref o0]) d_Reader_product_32 lV_Reader_221 b45 rfl (tc_Reader_factor_q2 (d := d) (x9 := x9) (o0 := o0) t37 (p := p) q38 (by omega) I35.start) rfl (Nat.le_of_ble_eq_true rfl) (Nat.le_of_ble_eq_true rfl) (Nat.le_of_ble_eq_true rfl) (hst := rfl) (fun b39r M40 n41 b39 => ?_)
            obtain ⟨T42, J43, v46, rfl, b47, b48, o49⟩ := b39
            have I44 := I35.call J43 (tm_sub (by decide)) (Or.inl rfl)
            have t50 := J43.up t37
            have := mz_hi v46
            refine mv_if_neZ (tgt := 40) (a := v46.toInt) d_Reader_product_35 (by decide) rfl (fun b51 => ?_) (fun b51 => ?_)
            · have q52 := o49 (by omega)
              refine mv_aload_n d_Reader_product_40 rfl rfl ?_
              refine mv_iconst (v := 4) d_Reader_product_41 (by decide) ?_
              refine mv_iconst (v := 0) d_Reader_product_42 (by decide) ?_
              obtain ⟨_, b59, -⟩ := I44.1 _ _ t50
              refine mv_callV (kc' := 0) (ks' := 0) (As := [.int 4, .int 0]) (st9 := [.int 0, .int 4, .ref o0]) d_Reader_product_43 lV_Reader_203 b59 rfl (tc_Reader_emit (d := (d + 8)) (x9 := x9) (o0 := o0) (x1 := 4) (x2 := 0) t50 I44.start) rfl (Nat.le_of_ble_eq_true rfl) (Nat.le_of_ble_eq_true rfl) (Nat.le_of_ble_eq_true rfl) (hst := rfl) (fun b53r M54 n55 b53 => ?_)
              obtain ⟨T56, J57, rfl⟩ := b53
              have I58 := I44.call J57 (tm_sub (by decide)) (Or.inl rfl)
              have t60 := J57.up t50
              have q61 := J57.keep t50 (by decide) q52
              refine mv_iinc (v := (i1_15 + 1)) (lv' := [(1, .int (i1_15 + 1)), (0, .ref o0)]) d_Reader_product_46 rfl rfl (by decide) rfl ?_
              refine mv_goto (tgt := 11) d_Reader_product_49 (by decide) ?_
              have b62 : (i1_15 + 1).toInt = i1_15.toInt + 1 := mz_addn 1 1 (by decide) (by have := mz_lo i1_15; omega) (by have := mz_hi i1_15; omega)
              exact (ih15 (i1_15 + 1) T56 M54 n55 I58 t60 (by first | omega | decide) q61 (by omega))
            · refine mv_iconst (v := 0) d_Reader_product_38 (by decide) ?_
              exact mv_iret d_Reader_product_39 rfl (by decide) ⟨_, I44, _, rfl, by decide, by decide, fun h => absurd h (by decide)⟩
    exact mv_less (Nat.zero_le _) (Nat.zero_le _) (L11_15 4294967296 0 T4 M2 n3 I6 t12 (by first | omega | decide) q14 (by show (2147483647 - (0 : Int) : Int) < _; decide))
  · refine mv_iconst (v := 0) d_Reader_product_7 (by decide) ?_
    exact mv_iret d_Reader_product_8 rfl (by decide) ⟨_, I6, _, rfl, by decide, by decide, fun h => absurd h (by decide)⟩
def w_Reader_sum_q2 : List Nat := [901, 902, 909, 910, 911, 912, 913, 914, 916, 918, 967]
theorem tc_Reader_sum_q2 {g : mj_G} {l : Launch} {d : Nat} {T0 : tm_H} {M0 : mj_M} {n0 x9 : Nat} {o0 : Nat} (h_o0 : T0 o0 = some (0, 9, 0)) {p : Int32} (hO : tm_at M0 o0 9 16 (.int p)) (hp : 2 ≤ p.toInt) (I0 : tm_I tm_FT (tm_in w_Reader_sum_q2) x9 T0 M0 n0 T0 M0 n0) : mj_Met g l kY_Reader_sum (d + 10) [.ref o0] M0 n0 0 0 (tm_Q tm_FT (tm_in w_Reader_sum_q2) x9 T0 M0 n0 (fun r _ M => ∃ v : Int32, r = some (.int v) ∧ 0 ≤ v.toInt ∧ v.toInt ≤ 1 ∧ (v.toInt = 1 → tm_at M o0 9 16 (.int p)))) := by
  refine mj_enter (by decide) (Nat.le_of_ble_eq_true rfl) ?_
  refine mv_aload_n d_Reader_sum_0 rfl rfl ?_
  obtain ⟨_, b7, -⟩ := I0.1 _ _ h_o0
  refine mv_callV (kc' := 0) (ks' := 0) (As := []) (st9 := [.ref o0]) d_Reader_sum_1 lV_Reader_218 b7 rfl (tc_Reader_product_q2 (d := d) (x9 := x9) (o0 := o0) h_o0 (p := p) hO (by omega) I0.start) rfl (Nat.le_of_ble_eq_true rfl) (Nat.le_of_ble_eq_true rfl) (Nat.le_of_ble_eq_true rfl) (hst := rfl) (fun b1r M2 n3 b1 => ?_)
  obtain ⟨T4, J5, v8, rfl, b9, b10, o11⟩ := b1
  have I6 := I0.call J5 (tm_sub (by decide)) (Or.inl rfl)
  have t12 := J5.up h_o0
  have := mz_hi v8
  refine mv_if_neZ (tgt := 9) (a := v8.toInt) d_Reader_sum_4 (by decide) rfl (fun b13 => ?_) (fun b13 => ?_)
  · have q14 := o11 (by omega)
    refine mv_iconst (v := 0) d_Reader_sum_9 (by decide) ?_
    refine mv_istore_n (lv' := [(1, .int 0), (0, .ref o0)]) d_Reader_sum_10 rfl (by decide) rfl ?_
    have L11_15 : ∀ (k : Nat) (i1_15 : Int32) (T_15 : tm_H) (M_15 : mj_M) (n_15 : Nat), tm_I tm_FT (tm_in w_Reader_sum_q2) x9 T0 M0 n0 T_15 M_15 n_15 → T_15 o0 = some (0, 9, 0) → 0 ≤ i1_15.toInt → tm_at M_15 o0 9 16 (.int p) → 2147483647 - i1_15.toInt < (k : Int) → mj_V g l kY_Reader_sum (d + 10) 11 [(1, .int i1_15), (0, .ref o0)] [] M_15 n_15 0 0 (tm_Q tm_FT (tm_in w_Reader_sum_q2) x9 T0 M0 n0 (fun r _ M => ∃ v : Int32, r = some (.int v) ∧ 0 ≤ v.toInt ∧ v.toInt ≤ 1 ∧ (v.toInt = 1 → tm_at M o0 9 16 (.int p)))) := by
      intro k15
      induction k15 with
      | zero =>
        intro i1_15 T_15 M_15 n_15 I_15 h_q0_15 iv0_15 kp0_15 hk15
        have := mz_hi i1_15
        omega
      | succ k15 ih15 =>
        intro i1_15 T_15 M_15 n_15 I_15 h_q0_15 iv0_15 kp0_15 hk15
        refine mv_iload_n d_Reader_sum_11 rfl rfl ?_
        refine mv_sipush (v := 400) d_Reader_sum_12 (by decide) ?_
        have := mz_hi i1_15
        refine mv_icmp_geZ (tgt := 76) (a := i1_15.toInt) (b := 400) d_Reader_sum_15 (by decide) rfl (by decide) (fun b16 => ?_) (fun b16 => ?_)
        · refine mv_iconst (v := 1) d_Reader_sum_76 (by decide) ?_
          exact mv_iret d_Reader_sum_77 rfl (by decide) ⟨_, I_15, _, rfl, by decide, by decide, fun _ => kp0_15⟩
        · refine mv_aload_n d_Reader_sum_18 rfl rfl ?_
          refine mv_bipush (v := 43) d_Reader_sum_19 (by decide) ?_
          obtain ⟨_, b23, -⟩ := I_15.1 _ _ h_q0_15
          refine mv_callV (kc' := 0) (ks' := 0) (As := [.int 43]) (st9 := [.int 43, .ref o0]) d_Reader_sum_21 lV_Reader_209 b23 rfl (tc_Reader_isSign (d := (d + 9)) (x9 := x9) (o0 := o0) (x1 := 43) h_q0_15 I_15.start) rfl (Nat.le_of_ble_eq_true rfl) (Nat.le_of_ble_eq_true rfl) (Nat.le_of_ble_eq_true rfl) (hst := rfl) (fun b17r M18 n19 b17 => ?_)
          obtain ⟨T20, J21, v24, rfl, b25, b26⟩ := b17
          have I22 := I_15.call J21 (tm_sub (by decide)) (Or.inl rfl)
          have t27 := J21.up h_q0_15
          have q28 := J21.keep h_q0_15 (by decide) kp0_15
          have := mz_hi v24
          refine mv_if_neZ (tgt := 36) (a := v24.toInt) d_Reader_sum_24 (by decide) rfl (fun b29 => ?_) (fun b29 => ?_)
          · refine mv_aload_n d_Reader_sum_36 rfl rfl ?_
            refine mv_bipush (v := 43) d_Reader_sum_37 (by decide) ?_
            obtain ⟨_, b36, -⟩ := I22.1 _ _ t27
            refine mv_callV (kc' := 0) (ks' := 0) (As := [.int 43]) (st9 := [.int 43, .ref o0]) d_Reader_sum_39 lV_Reader_209 b36 rfl (tc_Reader_isSign (d := (d + 9)) (x9 := x9) (o0 := o0) (x1 := 43) t27 I22.start) rfl (Nat.le_of_ble_eq_true rfl) (Nat.le_of_ble_eq_true rfl) (Nat.le_of_ble_eq_true rfl) (hst := rfl) (fun b30r M31 n32 b30 => ?_)
            obtain ⟨T33, J34, v37, rfl, b38, b39⟩ := b30
            have I35 := I22.call J34 (tm_sub (by decide)) (Or.inl rfl)
            have t40 := J34.up t27
            have q41 := J34.keep t27 (by decide) q28
            have := mz_hi v37
            refine mv_if_eqZ (tgt := 49) (a := v37.toInt) d_Reader_sum_42 (by decide) rfl (fun b42 => ?_) (fun b42 => ?_)
            · refine mv_iconst (v := 3) d_Reader_sum_49 (by decide) ?_
              refine mv_istore_n (lv' := [(2, .int 3), (1, .int i1_15), (0, .ref o0)]) d_Reader_sum_50 rfl (by decide) rfl ?_
              refine mv_aload_n d_Reader_sum_51 rfl rfl ?_
              obtain ⟨_, b49, -⟩ := I35.1 _ _ t40
              refine mv_callV (kc' := 0) (ks' := 0) (As := []) (st9 := [.ref o0]) d_Reader_sum_52 lV_Reader_82 b49 rfl (tc_Reader_advance (d := (d + 9)) (x9 := x9) (o0 := o0) t40 I35.start) rfl (Nat.le_of_ble_eq_true rfl) (Nat.le_of_ble_eq_true rfl) (Nat.le_of_ble_eq_true rfl) (hst := rfl) (fun b43r M44 n45 b43 => ?_)
              obtain ⟨T46, J47, rfl⟩ := b43
              have I48 := I35.call J47 (tm_sub (by decide)) (Or.inl rfl)
              have t50 := J47.up t40
              have q51 := J47.keep t40 (by decide) q41
              refine mv_aload_n d_Reader_sum_55 rfl rfl ?_
              obtain ⟨_, b58, -⟩ := I48.1 _ _ t50
              refine mv_callV (kc' := 0) (ks' := 0) (As := []) (st9 := [.ref o0]) d_Reader_sum_56 lV_Reader_218 b58 rfl (tc_Reader_product_q2 (d := d) (x9 := x9) (o0 := o0) t50 (p := p) q51 (by omega) I48.start) rfl (Nat.le_of_ble_eq_true rfl) (Nat.le_of_ble_eq_true rfl) (Nat.le_of_ble_eq_true rfl) (hst := rfl) (fun b52r M53 n54 b52 => ?_)
              obtain ⟨T55, J56, v59, rfl, b60, b61, o62⟩ := b52
              have I57 := I48.call J56 (tm_sub (by decide)) (Or.inl rfl)
              have t63 := J56.up t50
              have := mz_hi v59
              refine mv_if_neZ (tgt := 64) (a := v59.toInt) d_Reader_sum_59 (by decide) rfl (fun b64 => ?_) (fun b64 => ?_)
              · have q65 := o62 (by omega)
                refine mv_aload_n d_Reader_sum_64 rfl rfl ?_
                refine mv_iload_n d_Reader_sum_65 rfl rfl ?_
                refine mv_iconst (v := 0) d_Reader_sum_66 (by decide) ?_
                obtain ⟨_, b72, -⟩ := I57.1 _ _ t63
                refine mv_callV (kc' := 0) (ks' := 0) (As := [.int 3, .int 0]) (st9 := [.int 0, .int 3, .ref o0]) d_Reader_sum_67 lV_Reader_203 b72 rfl (tc_Reader_emit (d := (d + 9)) (x9 := x9) (o0 := o0) (x1 := 3) (x2 := 0) t63 I57.start) rfl (Nat.le_of_ble_eq_true rfl) (Nat.le_of_ble_eq_true rfl) (Nat.le_of_ble_eq_true rfl) (hst := rfl) (fun b66r M67 n68 b66 => ?_)
                obtain ⟨T69, J70, rfl⟩ := b66
                have I71 := I57.call J70 (tm_sub (by decide)) (Or.inl rfl)
                have t73 := J70.up t63
                have q74 := J70.keep t63 (by decide) q65
                refine mv_iinc (v := (i1_15 + 1)) (lv' := [(1, .int (i1_15 + 1)), (2, .int 3), (0, .ref o0)]) d_Reader_sum_70 rfl rfl (by decide) rfl ?_
                refine mv_goto (tgt := 11) d_Reader_sum_73 (by decide) ?_
                refine mv_locals (lv' := [(1, .int (i1_15 + 1)), (0, .ref o0)]) (by intro q hq; simp only [List.mem_cons, List.not_mem_nil, or_false] at hq; rcases hq with rfl | rfl <;> rfl) ?_
                have b75 : (i1_15 + 1).toInt = i1_15.toInt + 1 := mz_addn 1 1 (by decide) (by have := mz_lo i1_15; omega) (by have := mz_hi i1_15; omega)
                exact (ih15 (i1_15 + 1) T69 M67 n68 I71 t73 (by first | omega | decide) q74 (by omega))
              · refine mv_iconst (v := 0) d_Reader_sum_62 (by decide) ?_
                exact mv_iret d_Reader_sum_63 rfl (by decide) ⟨_, I57, _, rfl, by decide, by decide, fun h => absurd h (by decide)⟩
            · refine mv_iconst (v := 2) d_Reader_sum_45 (by decide) ?_
              refine mv_goto (tgt := 50) d_Reader_sum_46 (by decide) ?_
              refine mv_istore_n (lv' := [(2, .int 2), (1, .int i1_15), (0, .ref o0)]) d_Reader_sum_50 rfl (by decide) rfl ?_
              refine mv_aload_n d_Reader_sum_51 rfl rfl ?_
              obtain ⟨_, b82, -⟩ := I35.1 _ _ t40
              refine mv_callV (kc' := 0) (ks' := 0) (As := []) (st9 := [.ref o0]) d_Reader_sum_52 lV_Reader_82 b82 rfl (tc_Reader_advance (d := (d + 9)) (x9 := x9) (o0 := o0) t40 I35.start) rfl (Nat.le_of_ble_eq_true rfl) (Nat.le_of_ble_eq_true rfl) (Nat.le_of_ble_eq_true rfl) (hst := rfl) (fun b76r M77 n78 b76 => ?_)
              obtain ⟨T79, J80, rfl⟩ := b76
              have I81 := I35.call J80 (tm_sub (by decide)) (Or.inl rfl)
              have t83 := J80.up t40
              have q84 := J80.keep t40 (by decide) q41
              refine mv_aload_n d_Reader_sum_55 rfl rfl ?_
              obtain ⟨_, b91, -⟩ := I81.1 _ _ t83
              refine mv_callV (kc' := 0) (ks' := 0) (As := []) (st9 := [.ref o0]) d_Reader_sum_56 lV_Reader_218 b91 rfl (tc_Reader_product_q2 (d := d) (x9 := x9) (o0 := o0) t83 (p := p) q84 (by omega) I81.start) rfl (Nat.le_of_ble_eq_true rfl) (Nat.le_of_ble_eq_true rfl) (Nat.le_of_ble_eq_true rfl) (hst := rfl) (fun b85r M86 n87 b85 => ?_)
              obtain ⟨T88, J89, v92, rfl, b93, b94, o95⟩ := b85
              have I90 := I81.call J89 (tm_sub (by decide)) (Or.inl rfl)
              have t96 := J89.up t83
              have := mz_hi v92
              refine mv_if_neZ (tgt := 64) (a := v92.toInt) d_Reader_sum_59 (by decide) rfl (fun b97 => ?_) (fun b97 => ?_)
              · have q98 := o95 (by omega)
                refine mv_aload_n d_Reader_sum_64 rfl rfl ?_
                refine mv_iload_n d_Reader_sum_65 rfl rfl ?_
                refine mv_iconst (v := 0) d_Reader_sum_66 (by decide) ?_
                obtain ⟨_, b105, -⟩ := I90.1 _ _ t96
                refine mv_callV (kc' := 0) (ks' := 0) (As := [.int 2, .int 0]) (st9 := [.int 0, .int 2, .ref o0]) d_Reader_sum_67 lV_Reader_203 b105 rfl (tc_Reader_emit (d := (d + 9)) (x9 := x9) (o0 := o0) (x1 := 2) (x2 := 0) t96 I90.start) rfl (Nat.le_of_ble_eq_true rfl) (Nat.le_of_ble_eq_true rfl) (Nat.le_of_ble_eq_true rfl) (hst := rfl) (fun b99r M100 n101 b99 => ?_)
                obtain ⟨T102, J103, rfl⟩ := b99
                have I104 := I90.call J103 (tm_sub (by decide)) (Or.inl rfl)
                have t106 := J103.up t96
                have q107 := J103.keep t96 (by decide) q98
                refine mv_iinc (v := (i1_15 + 1)) (lv' := [(1, .int (i1_15 + 1)), (2, .int 2), (0, .ref o0)]) d_Reader_sum_70 rfl rfl (by decide) rfl ?_
                refine mv_goto (tgt := 11) d_Reader_sum_73 (by decide) ?_
                refine mv_locals (lv' := [(1, .int (i1_15 + 1)), (0, .ref o0)]) (by intro q hq; simp only [List.mem_cons, List.not_mem_nil, or_false] at hq; rcases hq with rfl | rfl <;> rfl) ?_
                have b108 : (i1_15 + 1).toInt = i1_15.toInt + 1 := mz_addn 1 1 (by decide) (by have := mz_lo i1_15; omega) (by have := mz_hi i1_15; omega)
                exact (ih15 (i1_15 + 1) T102 M100 n101 I104 t106 (by first | omega | decide) q107 (by omega))
              · refine mv_iconst (v := 0) d_Reader_sum_62 (by decide) ?_
                exact mv_iret d_Reader_sum_63 rfl (by decide) ⟨_, I90, _, rfl, by decide, by decide, fun h => absurd h (by decide)⟩
          · refine mv_aload_n d_Reader_sum_27 rfl rfl ?_
            refine mv_bipush (v := 45) d_Reader_sum_28 (by decide) ?_
            obtain ⟨_, b115, -⟩ := I22.1 _ _ t27
            refine mv_callV (kc' := 0) (ks' := 0) (As := [.int 45]) (st9 := [.int 45, .ref o0]) d_Reader_sum_30 lV_Reader_209 b115 rfl (tc_Reader_isSign (d := (d + 9)) (x9 := x9) (o0 := o0) (x1 := 45) t27 I22.start) rfl (Nat.le_of_ble_eq_true rfl) (Nat.le_of_ble_eq_true rfl) (Nat.le_of_ble_eq_true rfl) (hst := rfl) (fun b109r M110 n111 b109 => ?_)
            obtain ⟨T112, J113, v116, rfl, b117, b118⟩ := b109
            have I114 := I22.call J113 (tm_sub (by decide)) (Or.inl rfl)
            have t119 := J113.up t27
            have q120 := J113.keep t27 (by decide) q28
            have := mz_hi v116
            refine mv_if_eqZ (tgt := 76) (a := v116.toInt) d_Reader_sum_33 (by decide) rfl (fun b121 => ?_) (fun b121 => ?_)
            · refine mv_iconst (v := 1) d_Reader_sum_76 (by decide) ?_
              exact mv_iret d_Reader_sum_77 rfl (by decide) ⟨_, I114, _, rfl, by decide, by decide, fun _ => q120⟩
            · refine mv_aload_n d_Reader_sum_36 rfl rfl ?_
              refine mv_bipush (v := 43) d_Reader_sum_37 (by decide) ?_
              obtain ⟨_, b128, -⟩ := I114.1 _ _ t119
              refine mv_callV (kc' := 0) (ks' := 0) (As := [.int 43]) (st9 := [.int 43, .ref o0]) d_Reader_sum_39 lV_Reader_209 b128 rfl (tc_Reader_isSign (d := (d + 9)) (x9 := x9) (o0 := o0) (x1 := 43) t119 I114.start) rfl (Nat.le_of_ble_eq_true rfl) (Nat.le_of_ble_eq_true rfl) (Nat.le_of_ble_eq_true rfl) (hst := rfl) (fun b122r M123 n124 b122 => ?_)
              obtain ⟨T125, J126, v129, rfl, b130, b131⟩ := b122
              have I127 := I114.call J126 (tm_sub (by decide)) (Or.inl rfl)
              have t132 := J126.up t119
              have q133 := J126.keep t119 (by decide) q120
              have := mz_hi v129
              refine mv_if_eqZ (tgt := 49) (a := v129.toInt) d_Reader_sum_42 (by decide) rfl (fun b134 => ?_) (fun b134 => ?_)
              · refine mv_iconst (v := 3) d_Reader_sum_49 (by decide) ?_
                refine mv_istore_n (lv' := [(2, .int 3), (1, .int i1_15), (0, .ref o0)]) d_Reader_sum_50 rfl (by decide) rfl ?_
                refine mv_aload_n d_Reader_sum_51 rfl rfl ?_
                obtain ⟨_, b141, -⟩ := I127.1 _ _ t132
                refine mv_callV (kc' := 0) (ks' := 0) (As := []) (st9 := [.ref o0]) d_Reader_sum_52 lV_Reader_82 b141 rfl (tc_Reader_advance (d := (d + 9)) (x9 := x9) (o0 := o0) t132 I127.start) rfl (Nat.le_of_ble_eq_true rfl) (Nat.le_of_ble_eq_true rfl) (Nat.le_of_ble_eq_true rfl) (hst := rfl) (fun b135r M136 n137 b135 => ?_)
                obtain ⟨T138, J139, rfl⟩ := b135
                have I140 := I127.call J139 (tm_sub (by decide)) (Or.inl rfl)
                have t142 := J139.up t132
                have q143 := J139.keep t132 (by decide) q133
                refine mv_aload_n d_Reader_sum_55 rfl rfl ?_
                obtain ⟨_, b150, -⟩ := I140.1 _ _ t142
                refine mv_callV (kc' := 0) (ks' := 0) (As := []) (st9 := [.ref o0]) d_Reader_sum_56 lV_Reader_218 b150 rfl (tc_Reader_product_q2 (d := d) (x9 := x9) (o0 := o0) t142 (p := p) q143 (by omega) I140.start) rfl (Nat.le_of_ble_eq_true rfl) (Nat.le_of_ble_eq_true rfl) (Nat.le_of_ble_eq_true rfl) (hst := rfl) (fun b144r M145 n146 b144 => ?_)
                obtain ⟨T147, J148, v151, rfl, b152, b153, o154⟩ := b144
                have I149 := I140.call J148 (tm_sub (by decide)) (Or.inl rfl)
                have t155 := J148.up t142
                have := mz_hi v151
                refine mv_if_neZ (tgt := 64) (a := v151.toInt) d_Reader_sum_59 (by decide) rfl (fun b156 => ?_) (fun b156 => ?_)
                · have q157 := o154 (by omega)
                  refine mv_aload_n d_Reader_sum_64 rfl rfl ?_
                  refine mv_iload_n d_Reader_sum_65 rfl rfl ?_
                  refine mv_iconst (v := 0) d_Reader_sum_66 (by decide) ?_
                  obtain ⟨_, b164, -⟩ := I149.1 _ _ t155
                  refine mv_callV (kc' := 0) (ks' := 0) (As := [.int 3, .int 0]) (st9 := [.int 0, .int 3, .ref o0]) d_Reader_sum_67 lV_Reader_203 b164 rfl (tc_Reader_emit (d := (d + 9)) (x9 := x9) (o0 := o0) (x1 := 3) (x2 := 0) t155 I149.start) rfl (Nat.le_of_ble_eq_true rfl) (Nat.le_of_ble_eq_true rfl) (Nat.le_of_ble_eq_true rfl) (hst := rfl) (fun b158r M159 n160 b158 => ?_)
                  obtain ⟨T161, J162, rfl⟩ := b158
                  have I163 := I149.call J162 (tm_sub (by decide)) (Or.inl rfl)
                  have t165 := J162.up t155
                  have q166 := J162.keep t155 (by decide) q157
                  refine mv_iinc (v := (i1_15 + 1)) (lv' := [(1, .int (i1_15 + 1)), (2, .int 3), (0, .ref o0)]) d_Reader_sum_70 rfl rfl (by decide) rfl ?_
                  refine mv_goto (tgt := 11) d_Reader_sum_73 (by decide) ?_
                  refine mv_locals (lv' := [(1, .int (i1_15 + 1)), (0, .ref o0)]) (by intro q hq; simp only [List.mem_cons, List.not_mem_nil, or_false] at hq; rcases hq with rfl | rfl <;> rfl) ?_
                  have b167 : (i1_15 + 1).toInt = i1_15.toInt + 1 := mz_addn 1 1 (by decide) (by have := mz_lo i1_15; omega) (by have := mz_hi i1_15; omega)
                  exact (ih15 (i1_15 + 1) T161 M159 n160 I163 t165 (by first | omega | decide) q166 (by omega))
                · refine mv_iconst (v := 0) d_Reader_sum_62 (by decide) ?_
                  exact mv_iret d_Reader_sum_63 rfl (by decide) ⟨_, I149, _, rfl, by decide, by decide, fun h => absurd h (by decide)⟩
              · refine mv_iconst (v := 2) d_Reader_sum_45 (by decide) ?_
                refine mv_goto (tgt := 50) d_Reader_sum_46 (by decide) ?_
                refine mv_istore_n (lv' := [(2, .int 2), (1, .int i1_15), (0, .ref o0)]) d_Reader_sum_50 rfl (by decide) rfl ?_
                refine mv_aload_n d_Reader_sum_51 rfl rfl ?_
                obtain ⟨_, b174, -⟩ := I127.1 _ _ t132
                refine mv_callV (kc' := 0) (ks' := 0) (As := []) (st9 := [.ref o0]) d_Reader_sum_52 lV_Reader_82 b174 rfl (tc_Reader_advance (d := (d + 9)) (x9 := x9) (o0 := o0) t132 I127.start) rfl (Nat.le_of_ble_eq_true rfl) (Nat.le_of_ble_eq_true rfl) (Nat.le_of_ble_eq_true rfl) (hst := rfl) (fun b168r M169 n170 b168 => ?_)
                obtain ⟨T171, J172, rfl⟩ := b168
                have I173 := I127.call J172 (tm_sub (by decide)) (Or.inl rfl)
                have t175 := J172.up t132
                have q176 := J172.keep t132 (by decide) q133
                refine mv_aload_n d_Reader_sum_55 rfl rfl ?_
                obtain ⟨_, b183, -⟩ := I173.1 _ _ t175
                refine mv_callV (kc' := 0) (ks' := 0) (As := []) (st9 := [.ref o0]) d_Reader_sum_56 lV_Reader_218 b183 rfl (tc_Reader_product_q2 (d := d) (x9 := x9) (o0 := o0) t175 (p := p) q176 (by omega) I173.start) rfl (Nat.le_of_ble_eq_true rfl) (Nat.le_of_ble_eq_true rfl) (Nat.le_of_ble_eq_true rfl) (hst := rfl) (fun b177r M178 n179 b177 => ?_)
                obtain ⟨T180, J181, v184, rfl, b185, b186, o187⟩ := b177
                have I182 := I173.call J181 (tm_sub (by decide)) (Or.inl rfl)
                have t188 := J181.up t175
                have := mz_hi v184
                refine mv_if_neZ (tgt := 64) (a := v184.toInt) d_Reader_sum_59 (by decide) rfl (fun b189 => ?_) (fun b189 => ?_)
                · have q190 := o187 (by omega)
                  refine mv_aload_n d_Reader_sum_64 rfl rfl ?_
                  refine mv_iload_n d_Reader_sum_65 rfl rfl ?_
                  refine mv_iconst (v := 0) d_Reader_sum_66 (by decide) ?_
                  obtain ⟨_, b197, -⟩ := I182.1 _ _ t188
                  refine mv_callV (kc' := 0) (ks' := 0) (As := [.int 2, .int 0]) (st9 := [.int 0, .int 2, .ref o0]) d_Reader_sum_67 lV_Reader_203 b197 rfl (tc_Reader_emit (d := (d + 9)) (x9 := x9) (o0 := o0) (x1 := 2) (x2 := 0) t188 I182.start) rfl (Nat.le_of_ble_eq_true rfl) (Nat.le_of_ble_eq_true rfl) (Nat.le_of_ble_eq_true rfl) (hst := rfl) (fun b191r M192 n193 b191 => ?_)
                  obtain ⟨T194, J195, rfl⟩ := b191
                  have I196 := I182.call J195 (tm_sub (by decide)) (Or.inl rfl)
                  have t198 := J195.up t188
                  have q199 := J195.keep t188 (by decide) q190
                  refine mv_iinc (v := (i1_15 + 1)) (lv' := [(1, .int (i1_15 + 1)), (2, .int 2), (0, .ref o0)]) d_Reader_sum_70 rfl rfl (by decide) rfl ?_
                  refine mv_goto (tgt := 11) d_Reader_sum_73 (by decide) ?_
                  refine mv_locals (lv' := [(1, .int (i1_15 + 1)), (0, .ref o0)]) (by intro q hq; simp only [List.mem_cons, List.not_mem_nil, or_false] at hq; rcases hq with rfl | rfl <;> rfl) ?_
                  have b200 : (i1_15 + 1).toInt = i1_15.toInt + 1 := mz_addn 1 1 (by decide) (by have := mz_lo i1_15; omega) (by have := mz_hi i1_15; omega)
                  exact (ih15 (i1_15 + 1) T194 M192 n193 I196 t198 (by first | omega | decide) q199 (by omega))
                · refine mv_iconst (v := 0) d_Reader_sum_62 (by decide) ?_
                  exact mv_iret d_Reader_sum_63 rfl (by decide) ⟨_, I182, _, rfl, by decide, by decide, fun h => absurd h (by decide)⟩
    exact mv_less (Nat.zero_le _) (Nat.zero_le _) (L11_15 4294967296 0 T4 M2 n3 I6 t12 (by first | omega | decide) q14 (by show (2147483647 - (0 : Int) : Int) < _; decide))
  · refine mv_iconst (v := 0) d_Reader_sum_7 (by decide) ?_
    exact mv_iret d_Reader_sum_8 rfl (by decide) ⟨_, I6, _, rfl, by decide, by decide, fun h => absurd h (by decide)⟩
def w_Reader_factor_q3 : List Nat := [901, 902, 909, 910, 911, 912, 913, 914, 916, 918, 967]
theorem tc_Reader_factor_q3 {g : mj_G} {l : Launch} {d : Nat} {T0 : tm_H} {M0 : mj_M} {n0 x9 : Nat} {o0 : Nat} (h_o0 : T0 o0 = some (0, 9, 0)) {p : Int32} (hO : tm_at M0 o0 9 16 (.int p)) (hp : 1 ≤ p.toInt) (I0 : tm_I tm_FT (tm_in w_Reader_factor_q3) x9 T0 M0 n0 T0 M0 n0) : mj_Met g l kY_Reader_factor (d + 11) [.ref o0] M0 n0 0 0 (tm_Q tm_FT (tm_in w_Reader_factor_q3) x9 T0 M0 n0 (fun r _ M => ∃ v : Int32, r = some (.int v) ∧ 0 ≤ v.toInt ∧ v.toInt ≤ 1 ∧ (v.toInt = 1 → tm_at M o0 9 16 (.int p)))) := by
  refine mj_enter (by decide) (Nat.le_of_ble_eq_true rfl) ?_
  refine mv_aload_n d_Reader_factor_0 rfl rfl ?_
  obtain ⟨v2, q1⟩ := tm_atI I0 h_o0 (k := 10) rfl
  refine tr_getK q1 d_Reader_factor_1 f_Reader_41_9 ?_
  refine mv_iconst (v := 2) d_Reader_factor_4 (by decide) ?_
  have := mz_hi v2
  refine mv_icmp_neZ (tgt := 32) (a := v2.toInt) (b := 2) d_Reader_factor_5 (by decide) rfl (by decide) (fun b3 => ?_) (fun b3 => ?_)
  · refine mv_aload_n d_Reader_factor_32 rfl rfl ?_
    refine tr_getK (k := 10) q1 d_Reader_factor_33 f_Reader_41_9 ?_
    refine mv_iconst (v := 1) d_Reader_factor_36 (by decide) ?_
    have := mz_hi v2
    refine mv_icmp_neZ (tgt := 73) (a := v2.toInt) (b := 1) d_Reader_factor_37 (by decide) rfl (by decide) (fun b4 => ?_) (fun b4 => ?_)
    · refine mv_aload_n d_Reader_factor_73 rfl rfl ?_
      refine mv_bipush (v := 40) d_Reader_factor_74 (by decide) ?_
      obtain ⟨_, b11, -⟩ := I0.1 _ _ h_o0
      refine mv_callV (kc' := 0) (ks' := 0) (As := [.int 40]) (st9 := [.int 40, .ref o0]) d_Reader_factor_76 lV_Reader_209 b11 rfl (tc_Reader_isSign (d := (d + 10)) (x9 := x9) (o0 := o0) (x1 := 40) h_o0 I0.start) rfl (Nat.le_of_ble_eq_true rfl) (Nat.le_of_ble_eq_true rfl) (Nat.le_of_ble_eq_true rfl) (hst := rfl) (fun b5r M6 n7 b5 => ?_)
      obtain ⟨T8, J9, v12, rfl, b13, b14⟩ := b5
      have I10 := I0.call J9 (tm_sub (by decide)) (Or.inl rfl)
      have t15 := J9.up h_o0
      have q16 := J9.keep h_o0 (by decide) hO
      have q17 := J9.keep h_o0 (by decide) q1
      have := mz_hi v12
      refine mv_if_neZ (tgt := 88) (a := v12.toInt) d_Reader_factor_79 (by decide) rfl (fun b18 => ?_) (fun b18 => ?_)
      · refine mv_aload_n d_Reader_factor_88 rfl rfl ?_
        obtain ⟨_, b25, -⟩ := I10.1 _ _ t15
        refine mv_callV (kc' := 0) (ks' := 0) (As := []) (st9 := [.ref o0]) d_Reader_factor_89 lV_Reader_212 b25 rfl (tc_Reader_openBracket_q3 (d := (d + 9)) (x9 := x9) (o0 := o0) t15 (p := p) q16 (by omega) I10.start) rfl (Nat.le_of_ble_eq_true rfl) (Nat.le_of_ble_eq_true rfl) (Nat.le_of_ble_eq_true rfl) (hst := rfl) (fun b19r M20 n21 b19 => ?_)
        obtain ⟨T22, J23, v26, rfl, b27, b28, o29⟩ := b19
        have I24 := I10.call J23 (tm_sub (by decide)) (Or.inl rfl)
        have t30 := J23.up t15
        have := mz_hi v26
        refine mv_if_eqZ (tgt := 102) (a := v26.toInt) d_Reader_factor_92 (by decide) rfl (fun b31 => ?_) (fun b31 => ?_)
        · refine mv_iconst (v := 0) d_Reader_factor_102 (by decide) ?_
          exact mv_iret d_Reader_factor_103 rfl (by decide) ⟨_, I24, _, rfl, by decide, by decide, fun h => absurd h (by decide)⟩
        · obtain ⟨b33, q32⟩ := o29 (by omega)
          have b34 : (p + 1).toInt = p.toInt + 1 := mz_addn 1 1 (by decide) (by have := mz_lo p; omega) (by have := mz_hi p; omega)
          refine mv_aload_n d_Reader_factor_95 rfl rfl ?_
          obtain ⟨_, b41, -⟩ := I24.1 _ _ t30
          refine mv_callV (kc' := 0) (ks' := 0) (As := []) (st9 := [.ref o0]) d_Reader_factor_96 lV_Reader_186 b41 rfl (tc_Reader_sum_q2 (d := d) (x9 := x9) (o0 := o0) t30 (p := (p + 1)) q32 (by omega) I24.start) rfl (Nat.le_of_ble_eq_true rfl) (Nat.le_of_ble_eq_true rfl) (Nat.le_of_ble_eq_true rfl) (hst := rfl) (fun b35r M36 n37 b35 => ?_)
          obtain ⟨T38, J39, v42, rfl, b43, b44, o45⟩ := b35
          have I40 := I24.call J39 (tm_sub (by decide)) (Or.inl rfl)
          have t46 := J39.up t30
          have := mz_hi v42
          refine mv_if_neZ (tgt := 104) (a := v42.toInt) d_Reader_factor_99 (by decide) rfl (fun b47 => ?_) (fun b47 => ?_)
          · have q48 := o45 (by omega)
            refine mv_aload_n d_Reader_factor_104 rfl rfl ?_
            refine mv_dup d_Reader_factor_105 rfl ?_
            refine tr_getK (k := 16) q48 d_Reader_factor_106 f_Reader_73_9 ?_
            refine mv_iconst (v := 1) d_Reader_factor_109 (by decide) ?_
            refine mv_isubv (v := p) d_Reader_factor_110 (Int32.add_sub_cancel _ _) ?_
            refine tr_putK tm_okF I40 t46 (k := 16) rfl ⟨_, rfl⟩ (Or.inl (by decide)) d_Reader_factor_111 p_Reader_73_9 rfl rfl (fun M49 I50 q51 K52 => ?_)
            refine mv_aload_n d_Reader_factor_114 rfl rfl ?_
            refine mv_bipush (v := 41) d_Reader_factor_115 (by decide) ?_
            obtain ⟨_, b59, -⟩ := I50.1 _ _ t46
            refine mv_callV (kc' := 0) (ks' := 0) (As := [.int 41]) (st9 := [.int 41, .ref o0]) d_Reader_factor_117 lV_Reader_63 b59 rfl (tc_Reader_sign (d := (d + 9)) (x9 := x9) (o0 := o0) (x1 := 41) t46 I50.start) rfl (Nat.le_of_ble_eq_true rfl) (Nat.le_of_ble_eq_true rfl) (Nat.le_of_ble_eq_true rfl) (hst := rfl) (fun b53r M54 n55 b53 => ?_)
            obtain ⟨T56, J57, v60, rfl, b61, b62⟩ := b53
            have I58 := I50.call J57 (tm_sub (by decide)) (Or.inl rfl)
            have t63 := J57.up t46
            have q64 := J57.keep t46 (by decide) q51
            exact mv_iret d_Reader_factor_120 rfl (mz_nb (by omega) (by omega)) ⟨_, I58, _, rfl, by omega, by omega, fun _ => q64⟩
          · refine mv_iconst (v := 0) d_Reader_factor_102 (by decide) ?_
            exact mv_iret d_Reader_factor_103 rfl (by decide) ⟨_, I40, _, rfl, by decide, by decide, fun h => absurd h (by decide)⟩
      · refine mv_aload_n d_Reader_factor_82 rfl rfl ?_
        refine mv_iconst (v := 1) d_Reader_factor_83 (by decide) ?_
        obtain ⟨_, b71, -⟩ := I10.1 _ _ t15
        refine mv_callV (kc' := 0) (ks' := 0) (As := [.int 1]) (st9 := [.int 1, .ref o0]) d_Reader_factor_84 lV_Reader_56 b71 rfl (tc_Reader_refuse (d := (d + 10)) (x9 := x9) (o0 := o0) (x1 := 1) t15 I10.start) rfl (Nat.le_of_ble_eq_true rfl) (Nat.le_of_ble_eq_true rfl) (Nat.le_of_ble_eq_true rfl) (hst := rfl) (fun b65r M66 n67 b65 => ?_)
        obtain ⟨T68, J69, rfl⟩ := b65
        have I70 := I10.call J69 (tm_sub (by decide)) (Or.inl rfl)
        have t72 := J69.up t15
        have q73 := J69.keep t15 (by decide) q16
        have q74 := J69.keep t15 (by decide) q17
        exact mv_iret d_Reader_factor_87 rfl (by decide) ⟨_, I70, _, rfl, by decide, by decide, fun h => absurd h (by decide)⟩
    · refine mv_aload_n d_Reader_factor_40 rfl rfl ?_
      refine mv_iconst (v := 0) d_Reader_factor_41 (by decide) ?_
      refine mv_aload_n d_Reader_factor_42 rfl rfl ?_
      obtain ⟨v76, q75⟩ := tm_atI I0 h_o0 (k := 15) rfl
      refine tr_getK q75 d_Reader_factor_43 f_Reader_67_9 ?_
      obtain ⟨_, b83, -⟩ := I0.1 _ _ h_o0
      refine mv_callV (kc' := 0) (ks' := 0) (As := [.int 0, .int v76]) (st9 := [.int v76, .int 0, .ref o0]) d_Reader_factor_46 lV_Reader_85 b83 rfl (tc_Reader_valueAmong (d := (d + 10)) (x9 := x9) (o0 := o0) (x1 := 0) (x2 := v76) h_o0 I0.start) rfl (Nat.le_of_ble_eq_true rfl) (Nat.le_of_ble_eq_true rfl) (Nat.le_of_ble_eq_true rfl) (hst := rfl) (fun b77r M78 n79 b77 => ?_)
      obtain ⟨T80, J81, v84, rfl⟩ := b77
      have I82 := I0.call J81 (tm_sub (by decide)) (Or.inl rfl)
      have t85 := J81.up h_o0
      have q86 := J81.keep h_o0 (by decide) hO
      have q87 := J81.keep h_o0 (by decide) q1
      have q88 := J81.keep h_o0 (by decide) q75
      refine mv_istore_n (lv' := [(1, .int v84), (0, .ref o0)]) d_Reader_factor_49 rfl (by decide) rfl ?_
      refine mv_iload_n d_Reader_factor_50 rfl rfl ?_
      refine mv_iconst (v := (-1)) d_Reader_factor_51 (by decide) ?_
      have := mz_hi v84
      refine mv_icmp_neZ (tgt := 61) (a := v84.toInt) (b := (-1)) d_Reader_factor_52 (by decide) rfl (by decide) (fun b89 => ?_) (fun b89 => ?_)
      · refine mv_aload_n d_Reader_factor_61 rfl rfl ?_
        refine mv_iconst (v := 1) d_Reader_factor_62 (by decide) ?_
        refine mv_iload_n d_Reader_factor_63 rfl rfl ?_
        obtain ⟨_, b96, -⟩ := I82.1 _ _ t85
        refine mv_callV (kc' := 0) (ks' := 0) (As := [.int 1, .int v84]) (st9 := [.int v84, .int 1, .ref o0]) d_Reader_factor_64 lV_Reader_203 b96 rfl (tc_Reader_emit (d := (d + 10)) (x9 := x9) (o0 := o0) (x1 := 1) (x2 := v84) t85 I82.start) rfl (Nat.le_of_ble_eq_true rfl) (Nat.le_of_ble_eq_true rfl) (Nat.le_of_ble_eq_true rfl) (hst := rfl) (fun b90r M91 n92 b90 => ?_)
        obtain ⟨T93, J94, rfl⟩ := b90
        have I95 := I82.call J94 (tm_sub (by decide)) (Or.inl rfl)
        have t97 := J94.up t85
        have q98 := J94.keep t85 (by decide) q86
        have q99 := J94.keep t85 (by decide) q87
        have q100 := J94.keep t85 (by decide) q88
        refine mv_aload_n d_Reader_factor_67 rfl rfl ?_
        obtain ⟨_, b107, -⟩ := I95.1 _ _ t97
        refine mv_callV (kc' := 0) (ks' := 0) (As := []) (st9 := [.ref o0]) d_Reader_factor_68 lV_Reader_82 b107 rfl (tc_Reader_advance (d := (d + 10)) (x9 := x9) (o0 := o0) t97 I95.start) rfl (Nat.le_of_ble_eq_true rfl) (Nat.le_of_ble_eq_true rfl) (Nat.le_of_ble_eq_true rfl) (hst := rfl) (fun b101r M102 n103 b101 => ?_)
        obtain ⟨T104, J105, rfl⟩ := b101
        have I106 := I95.call J105 (tm_sub (by decide)) (Or.inl rfl)
        have t108 := J105.up t97
        have q109 := J105.keep t97 (by decide) q98
        have q110 := J105.keep t97 (by decide) q100
        refine mv_iconst (v := 1) d_Reader_factor_71 (by decide) ?_
        exact mv_iret d_Reader_factor_72 rfl (by decide) ⟨_, I106, _, rfl, by decide, by decide, fun _ => q109⟩
      · refine mv_aload_n d_Reader_factor_55 rfl rfl ?_
        refine mv_iconst (v := 3) d_Reader_factor_56 (by decide) ?_
        obtain ⟨_, b117, -⟩ := I82.1 _ _ t85
        refine mv_callV (kc' := 0) (ks' := 0) (As := [.int 3]) (st9 := [.int 3, .ref o0]) d_Reader_factor_57 lV_Reader_56 b117 rfl (tc_Reader_refuse (d := (d + 10)) (x9 := x9) (o0 := o0) (x1 := 3) t85 I82.start) rfl (Nat.le_of_ble_eq_true rfl) (Nat.le_of_ble_eq_true rfl) (Nat.le_of_ble_eq_true rfl) (hst := rfl) (fun b111r M112 n113 b111 => ?_)
        obtain ⟨T114, J115, rfl⟩ := b111
        have I116 := I82.call J115 (tm_sub (by decide)) (Or.inl rfl)
        have t118 := J115.up t85
        have q119 := J115.keep t85 (by decide) q86
        have q120 := J115.keep t85 (by decide) q87
        have q121 := J115.keep t85 (by decide) q88
        exact mv_iret d_Reader_factor_60 rfl (by decide) ⟨_, I116, _, rfl, by decide, by decide, fun h => absurd h (by decide)⟩
  · refine mv_aload_n d_Reader_factor_8 rfl rfl ?_
    refine mv_iconst (v := 0) d_Reader_factor_9 (by decide) ?_
    refine mv_sipush (v := 9999) d_Reader_factor_10 (by decide) ?_
    obtain ⟨_, b128, -⟩ := I0.1 _ _ h_o0
    refine mv_callV (kc' := 0) (ks' := 0) (As := [.int 0, .int 9999]) (st9 := [.int 9999, .int 0, .ref o0]) d_Reader_factor_13 lV_Reader_107 b128 rfl (tc_Reader_numeral (d := (d + 9)) (x9 := x9) (o0 := o0) (x1 := 0) (x2 := 9999) h_o0 I0.start) rfl (Nat.le_of_ble_eq_true rfl) (Nat.le_of_ble_eq_true rfl) (Nat.le_of_ble_eq_true rfl) (hst := rfl) (fun b122r M123 n124 b122 => ?_)
    obtain ⟨T125, J126, v129, rfl, b130, b131⟩ := b122
    have I127 := I0.call J126 (tm_sub (by decide)) (Or.inl rfl)
    have t132 := J126.up h_o0
    have q133 := J126.keep h_o0 (by decide) hO
    have := mz_hi v129
    refine mv_if_neZ (tgt := 21) (a := v129.toInt) d_Reader_factor_16 (by decide) rfl (fun b134 => ?_) (fun b134 => ?_)
    · refine mv_aload_n d_Reader_factor_21 rfl rfl ?_
      refine mv_iconst (v := 0) d_Reader_factor_22 (by decide) ?_
      refine mv_aload_n d_Reader_factor_23 rfl rfl ?_
      obtain ⟨v136, q135⟩ := tm_atI I127 t132 (k := 14) rfl
      refine tr_getK q135 d_Reader_factor_24 f_Reader_111_9 ?_
      obtain ⟨_, b143, -⟩ := I127.1 _ _ t132
      refine mv_callV (kc' := 0) (ks' := 0) (As := [.int 0, .int v136]) (st9 := [.int v136, .int 0, .ref o0]) d_Reader_factor_27 lV_Reader_203 b143 rfl (tc_Reader_emit (d := (d + 10)) (x9 := x9) (o0 := o0) (x1 := 0) (x2 := v136) t132 I127.start) rfl (Nat.le_of_ble_eq_true rfl) (Nat.le_of_ble_eq_true rfl) (Nat.le_of_ble_eq_true rfl) (hst := rfl) (fun b137r M138 n139 b137 => ?_)
      obtain ⟨T140, J141, rfl⟩ := b137
      have I142 := I127.call J141 (tm_sub (by decide)) (Or.inl rfl)
      have t144 := J141.up t132
      have q145 := J141.keep t132 (by decide) q133
      have q146 := J141.keep t132 (by decide) q135
      refine mv_iconst (v := 1) d_Reader_factor_30 (by decide) ?_
      exact mv_iret d_Reader_factor_31 rfl (by decide) ⟨_, I142, _, rfl, by decide, by decide, fun _ => q145⟩
    · refine mv_iconst (v := 0) d_Reader_factor_19 (by decide) ?_
      exact mv_iret d_Reader_factor_20 rfl (by decide) ⟨_, I127, _, rfl, by decide, by decide, fun h => absurd h (by decide)⟩
def w_Reader_product_q3 : List Nat := [901, 902, 909, 910, 911, 912, 913, 914, 916, 918, 967]
theorem tc_Reader_product_q3 {g : mj_G} {l : Launch} {d : Nat} {T0 : tm_H} {M0 : mj_M} {n0 x9 : Nat} {o0 : Nat} (h_o0 : T0 o0 = some (0, 9, 0)) {p : Int32} (hO : tm_at M0 o0 9 16 (.int p)) (hp : 1 ≤ p.toInt) (I0 : tm_I tm_FT (tm_in w_Reader_product_q3) x9 T0 M0 n0 T0 M0 n0) : mj_Met g l kY_Reader_product (d + 12) [.ref o0] M0 n0 0 0 (tm_Q tm_FT (tm_in w_Reader_product_q3) x9 T0 M0 n0 (fun r _ M => ∃ v : Int32, r = some (.int v) ∧ 0 ≤ v.toInt ∧ v.toInt ≤ 1 ∧ (v.toInt = 1 → tm_at M o0 9 16 (.int p)))) := by
  refine mj_enter (by decide) (Nat.le_of_ble_eq_true rfl) ?_
  refine mv_aload_n d_Reader_product_0 rfl rfl ?_
  obtain ⟨_, b7, -⟩ := I0.1 _ _ h_o0
  refine mv_callV (kc' := 0) (ks' := 0) (As := []) (st9 := [.ref o0]) d_Reader_product_1 lV_Reader_221 b7 rfl (tc_Reader_factor_q3 (d := d) (x9 := x9) (o0 := o0) h_o0 (p := p) hO (by omega) I0.start) rfl (Nat.le_of_ble_eq_true rfl) (Nat.le_of_ble_eq_true rfl) (Nat.le_of_ble_eq_true rfl) (hst := rfl) (fun b1r M2 n3 b1 => ?_)
  obtain ⟨T4, J5, v8, rfl, b9, b10, o11⟩ := b1
  have I6 := I0.call J5 (tm_sub (by decide)) (Or.inl rfl)
  have t12 := J5.up h_o0
  have := mz_hi v8
  refine mv_if_neZ (tgt := 9) (a := v8.toInt) d_Reader_product_4 (by decide) rfl (fun b13 => ?_) (fun b13 => ?_)
  · have q14 := o11 (by omega)
    refine mv_iconst (v := 0) d_Reader_product_9 (by decide) ?_
    refine mv_istore_n (lv' := [(1, .int 0), (0, .ref o0)]) d_Reader_product_10 rfl (by decide) rfl ?_
    have L11_15 : ∀ (k : Nat) (i1_15 : Int32) (T_15 : tm_H) (M_15 : mj_M) (n_15 : Nat), tm_I tm_FT (tm_in w_Reader_product_q3) x9 T0 M0 n0 T_15 M_15 n_15 → T_15 o0 = some (0, 9, 0) → 0 ≤ i1_15.toInt → tm_at M_15 o0 9 16 (.int p) → 2147483647 - i1_15.toInt < (k : Int) → mj_V g l kY_Reader_product (d + 12) 11 [(1, .int i1_15), (0, .ref o0)] [] M_15 n_15 0 0 (tm_Q tm_FT (tm_in w_Reader_product_q3) x9 T0 M0 n0 (fun r _ M => ∃ v : Int32, r = some (.int v) ∧ 0 ≤ v.toInt ∧ v.toInt ≤ 1 ∧ (v.toInt = 1 → tm_at M o0 9 16 (.int p)))) := by
      intro k15
      induction k15 with
      | zero =>
        intro i1_15 T_15 M_15 n_15 I_15 h_q0_15 iv0_15 kp0_15 hk15
        have := mz_hi i1_15
        omega
      | succ k15 ih15 =>
        intro i1_15 T_15 M_15 n_15 I_15 h_q0_15 iv0_15 kp0_15 hk15
        refine mv_iload_n d_Reader_product_11 rfl rfl ?_
        refine mv_sipush (v := 400) d_Reader_product_12 (by decide) ?_
        have := mz_hi i1_15
        refine mv_icmp_geZ (tgt := 52) (a := i1_15.toInt) (b := 400) d_Reader_product_15 (by decide) rfl (by decide) (fun b16 => ?_) (fun b16 => ?_)
        · refine mv_iconst (v := 1) d_Reader_product_52 (by decide) ?_
          exact mv_iret d_Reader_product_53 rfl (by decide) ⟨_, I_15, _, rfl, by decide, by decide, fun _ => kp0_15⟩
        · refine mv_aload_n d_Reader_product_18 rfl rfl ?_
          refine mv_bipush (v := 42) d_Reader_product_19 (by decide) ?_
          obtain ⟨_, b23, -⟩ := I_15.1 _ _ h_q0_15
          refine mv_callV (kc' := 0) (ks' := 0) (As := [.int 42]) (st9 := [.int 42, .ref o0]) d_Reader_product_21 lV_Reader_209 b23 rfl (tc_Reader_isSign (d := (d + 11)) (x9 := x9) (o0 := o0) (x1 := 42) h_q0_15 I_15.start) rfl (Nat.le_of_ble_eq_true rfl) (Nat.le_of_ble_eq_true rfl) (Nat.le_of_ble_eq_true rfl) (hst := rfl) (fun b17r M18 n19 b17 => ?_)
          obtain ⟨T20, J21, v24, rfl, b25, b26⟩ := b17
          have I22 := I_15.call J21 (tm_sub (by decide)) (Or.inl rfl)
          have t27 := J21.up h_q0_15
          have q28 := J21.keep h_q0_15 (by decide) kp0_15
          have := mz_hi v24
          refine mv_if_eqZ (tgt := 52) (a := v24.toInt) d_Reader_product_24 (by decide) rfl (fun b29 => ?_) (fun b29 => ?_)
          · refine mv_iconst (v := 1) d_Reader_product_52 (by decide) ?_
            exact mv_iret d_Reader_product_53 rfl (by decide) ⟨_, I22, _, rfl, by decide, by decide, fun _ => q28⟩
          · refine mv_aload_n d_Reader_product_27 rfl rfl ?_
            obtain ⟨_, b36, -⟩ := I22.1 _ _ t27
            refine mv_callV (kc' := 0) (ks' := 0) (As := []) (st9 := [.ref o0]) d_Reader_product_28 lV_Reader_82 b36 rfl (tc_Reader_advance (d := (d + 11)) (x9 := x9) (o0 := o0) t27 I22.start) rfl (Nat.le_of_ble_eq_true rfl) (Nat.le_of_ble_eq_true rfl) (Nat.le_of_ble_eq_true rfl) (hst := rfl) (fun b30r M31 n32 b30 => ?_)
            obtain ⟨T33, J34, rfl⟩ := b30
            have I35 := I22.call J34 (tm_sub (by decide)) (Or.inl rfl)
            have t37 := J34.up t27
            have q38 := J34.keep t27 (by decide) q28
            refine mv_aload_n d_Reader_product_31 rfl rfl ?_
            obtain ⟨_, b45, -⟩ := I35.1 _ _ t37
            refine mv_callV (kc' := 0) (ks' := 0) (As := []) (st9 := [.ref o0]) d_Reader_product_32 lV_Reader_221 b45 rfl (tc_Reader_factor_q3 (d := d) (x9 := x9) (o0 := o0) t37 (p := p) q38 (by omega) I35.start) rfl (Nat.le_of_ble_eq_true rfl) (Nat.le_of_ble_eq_true rfl) (Nat.le_of_ble_eq_true rfl) (hst := rfl) (fun b39r M40 n41 b39 => ?_)
            obtain ⟨T42, J43, v46, rfl, b47, b48, o49⟩ := b39
            have I44 := I35.call J43 (tm_sub (by decide)) (Or.inl rfl)
            have t50 := J43.up t37
            have := mz_hi v46
            refine mv_if_neZ (tgt := 40) (a := v46.toInt) d_Reader_product_35 (by decide) rfl (fun b51 => ?_) (fun b51 => ?_)
            · have q52 := o49 (by omega)
              refine mv_aload_n d_Reader_product_40 rfl rfl ?_
              refine mv_iconst (v := 4) d_Reader_product_41 (by decide) ?_
              refine mv_iconst (v := 0) d_Reader_product_42 (by decide) ?_
              obtain ⟨_, b59, -⟩ := I44.1 _ _ t50
              refine mv_callV (kc' := 0) (ks' := 0) (As := [.int 4, .int 0]) (st9 := [.int 0, .int 4, .ref o0]) d_Reader_product_43 lV_Reader_203 b59 rfl (tc_Reader_emit (d := (d + 11)) (x9 := x9) (o0 := o0) (x1 := 4) (x2 := 0) t50 I44.start) rfl (Nat.le_of_ble_eq_true rfl) (Nat.le_of_ble_eq_true rfl) (Nat.le_of_ble_eq_true rfl) (hst := rfl) (fun b53r M54 n55 b53 => ?_)
              obtain ⟨T56, J57, rfl⟩ := b53
              have I58 := I44.call J57 (tm_sub (by decide)) (Or.inl rfl)
              have t60 := J57.up t50
              have q61 := J57.keep t50 (by decide) q52
              refine mv_iinc (v := (i1_15 + 1)) (lv' := [(1, .int (i1_15 + 1)), (0, .ref o0)]) d_Reader_product_46 rfl rfl (by decide) rfl ?_
              refine mv_goto (tgt := 11) d_Reader_product_49 (by decide) ?_
              have b62 : (i1_15 + 1).toInt = i1_15.toInt + 1 := mz_addn 1 1 (by decide) (by have := mz_lo i1_15; omega) (by have := mz_hi i1_15; omega)
              exact (ih15 (i1_15 + 1) T56 M54 n55 I58 t60 (by first | omega | decide) q61 (by omega))
            · refine mv_iconst (v := 0) d_Reader_product_38 (by decide) ?_
              exact mv_iret d_Reader_product_39 rfl (by decide) ⟨_, I44, _, rfl, by decide, by decide, fun h => absurd h (by decide)⟩
    exact mv_less (Nat.zero_le _) (Nat.zero_le _) (L11_15 4294967296 0 T4 M2 n3 I6 t12 (by first | omega | decide) q14 (by show (2147483647 - (0 : Int) : Int) < _; decide))
  · refine mv_iconst (v := 0) d_Reader_product_7 (by decide) ?_
    exact mv_iret d_Reader_product_8 rfl (by decide) ⟨_, I6, _, rfl, by decide, by decide, fun h => absurd h (by decide)⟩
def w_Reader_sum_q3 : List Nat := [901, 902, 909, 910, 911, 912, 913, 914, 916, 918, 967]
theorem tc_Reader_sum_q3 {g : mj_G} {l : Launch} {d : Nat} {T0 : tm_H} {M0 : mj_M} {n0 x9 : Nat} {o0 : Nat} (h_o0 : T0 o0 = some (0, 9, 0)) {p : Int32} (hO : tm_at M0 o0 9 16 (.int p)) (hp : 1 ≤ p.toInt) (I0 : tm_I tm_FT (tm_in w_Reader_sum_q3) x9 T0 M0 n0 T0 M0 n0) : mj_Met g l kY_Reader_sum (d + 13) [.ref o0] M0 n0 0 0 (tm_Q tm_FT (tm_in w_Reader_sum_q3) x9 T0 M0 n0 (fun r _ M => ∃ v : Int32, r = some (.int v) ∧ 0 ≤ v.toInt ∧ v.toInt ≤ 1 ∧ (v.toInt = 1 → tm_at M o0 9 16 (.int p)))) := by
  refine mj_enter (by decide) (Nat.le_of_ble_eq_true rfl) ?_
  refine mv_aload_n d_Reader_sum_0 rfl rfl ?_
  obtain ⟨_, b7, -⟩ := I0.1 _ _ h_o0
  refine mv_callV (kc' := 0) (ks' := 0) (As := []) (st9 := [.ref o0]) d_Reader_sum_1 lV_Reader_218 b7 rfl (tc_Reader_product_q3 (d := d) (x9 := x9) (o0 := o0) h_o0 (p := p) hO (by omega) I0.start) rfl (Nat.le_of_ble_eq_true rfl) (Nat.le_of_ble_eq_true rfl) (Nat.le_of_ble_eq_true rfl) (hst := rfl) (fun b1r M2 n3 b1 => ?_)
  obtain ⟨T4, J5, v8, rfl, b9, b10, o11⟩ := b1
  have I6 := I0.call J5 (tm_sub (by decide)) (Or.inl rfl)
  have t12 := J5.up h_o0
  have := mz_hi v8
  refine mv_if_neZ (tgt := 9) (a := v8.toInt) d_Reader_sum_4 (by decide) rfl (fun b13 => ?_) (fun b13 => ?_)
  · have q14 := o11 (by omega)
    refine mv_iconst (v := 0) d_Reader_sum_9 (by decide) ?_
    refine mv_istore_n (lv' := [(1, .int 0), (0, .ref o0)]) d_Reader_sum_10 rfl (by decide) rfl ?_
    have L11_15 : ∀ (k : Nat) (i1_15 : Int32) (T_15 : tm_H) (M_15 : mj_M) (n_15 : Nat), tm_I tm_FT (tm_in w_Reader_sum_q3) x9 T0 M0 n0 T_15 M_15 n_15 → T_15 o0 = some (0, 9, 0) → 0 ≤ i1_15.toInt → tm_at M_15 o0 9 16 (.int p) → 2147483647 - i1_15.toInt < (k : Int) → mj_V g l kY_Reader_sum (d + 13) 11 [(1, .int i1_15), (0, .ref o0)] [] M_15 n_15 0 0 (tm_Q tm_FT (tm_in w_Reader_sum_q3) x9 T0 M0 n0 (fun r _ M => ∃ v : Int32, r = some (.int v) ∧ 0 ≤ v.toInt ∧ v.toInt ≤ 1 ∧ (v.toInt = 1 → tm_at M o0 9 16 (.int p)))) := by
      intro k15
      induction k15 with
      | zero =>
        intro i1_15 T_15 M_15 n_15 I_15 h_q0_15 iv0_15 kp0_15 hk15
        have := mz_hi i1_15
        omega
      | succ k15 ih15 =>
        intro i1_15 T_15 M_15 n_15 I_15 h_q0_15 iv0_15 kp0_15 hk15
        refine mv_iload_n d_Reader_sum_11 rfl rfl ?_
        refine mv_sipush (v := 400) d_Reader_sum_12 (by decide) ?_
        have := mz_hi i1_15
        refine mv_icmp_geZ (tgt := 76) (a := i1_15.toInt) (b := 400) d_Reader_sum_15 (by decide) rfl (by decide) (fun b16 => ?_) (fun b16 => ?_)
        · refine mv_iconst (v := 1) d_Reader_sum_76 (by decide) ?_
          exact mv_iret d_Reader_sum_77 rfl (by decide) ⟨_, I_15, _, rfl, by decide, by decide, fun _ => kp0_15⟩
        · refine mv_aload_n d_Reader_sum_18 rfl rfl ?_
          refine mv_bipush (v := 43) d_Reader_sum_19 (by decide) ?_
          obtain ⟨_, b23, -⟩ := I_15.1 _ _ h_q0_15
          refine mv_callV (kc' := 0) (ks' := 0) (As := [.int 43]) (st9 := [.int 43, .ref o0]) d_Reader_sum_21 lV_Reader_209 b23 rfl (tc_Reader_isSign (d := (d + 12)) (x9 := x9) (o0 := o0) (x1 := 43) h_q0_15 I_15.start) rfl (Nat.le_of_ble_eq_true rfl) (Nat.le_of_ble_eq_true rfl) (Nat.le_of_ble_eq_true rfl) (hst := rfl) (fun b17r M18 n19 b17 => ?_)
          obtain ⟨T20, J21, v24, rfl, b25, b26⟩ := b17
          have I22 := I_15.call J21 (tm_sub (by decide)) (Or.inl rfl)
          have t27 := J21.up h_q0_15
          have q28 := J21.keep h_q0_15 (by decide) kp0_15
          have := mz_hi v24
          refine mv_if_neZ (tgt := 36) (a := v24.toInt) d_Reader_sum_24 (by decide) rfl (fun b29 => ?_) (fun b29 => ?_)
          · refine mv_aload_n d_Reader_sum_36 rfl rfl ?_
            refine mv_bipush (v := 43) d_Reader_sum_37 (by decide) ?_
            obtain ⟨_, b36, -⟩ := I22.1 _ _ t27
            refine mv_callV (kc' := 0) (ks' := 0) (As := [.int 43]) (st9 := [.int 43, .ref o0]) d_Reader_sum_39 lV_Reader_209 b36 rfl (tc_Reader_isSign (d := (d + 12)) (x9 := x9) (o0 := o0) (x1 := 43) t27 I22.start) rfl (Nat.le_of_ble_eq_true rfl) (Nat.le_of_ble_eq_true rfl) (Nat.le_of_ble_eq_true rfl) (hst := rfl) (fun b30r M31 n32 b30 => ?_)
            obtain ⟨T33, J34, v37, rfl, b38, b39⟩ := b30
            have I35 := I22.call J34 (tm_sub (by decide)) (Or.inl rfl)
            have t40 := J34.up t27
            have q41 := J34.keep t27 (by decide) q28
            have := mz_hi v37
            refine mv_if_eqZ (tgt := 49) (a := v37.toInt) d_Reader_sum_42 (by decide) rfl (fun b42 => ?_) (fun b42 => ?_)
            · refine mv_iconst (v := 3) d_Reader_sum_49 (by decide) ?_
              refine mv_istore_n (lv' := [(2, .int 3), (1, .int i1_15), (0, .ref o0)]) d_Reader_sum_50 rfl (by decide) rfl ?_
              refine mv_aload_n d_Reader_sum_51 rfl rfl ?_
              obtain ⟨_, b49, -⟩ := I35.1 _ _ t40
              refine mv_callV (kc' := 0) (ks' := 0) (As := []) (st9 := [.ref o0]) d_Reader_sum_52 lV_Reader_82 b49 rfl (tc_Reader_advance (d := (d + 12)) (x9 := x9) (o0 := o0) t40 I35.start) rfl (Nat.le_of_ble_eq_true rfl) (Nat.le_of_ble_eq_true rfl) (Nat.le_of_ble_eq_true rfl) (hst := rfl) (fun b43r M44 n45 b43 => ?_)
              obtain ⟨T46, J47, rfl⟩ := b43
              have I48 := I35.call J47 (tm_sub (by decide)) (Or.inl rfl)
              have t50 := J47.up t40
              have q51 := J47.keep t40 (by decide) q41
              refine mv_aload_n d_Reader_sum_55 rfl rfl ?_
              obtain ⟨_, b58, -⟩ := I48.1 _ _ t50
              refine mv_callV (kc' := 0) (ks' := 0) (As := []) (st9 := [.ref o0]) d_Reader_sum_56 lV_Reader_218 b58 rfl (tc_Reader_product_q3 (d := d) (x9 := x9) (o0 := o0) t50 (p := p) q51 (by omega) I48.start) rfl (Nat.le_of_ble_eq_true rfl) (Nat.le_of_ble_eq_true rfl) (Nat.le_of_ble_eq_true rfl) (hst := rfl) (fun b52r M53 n54 b52 => ?_)
              obtain ⟨T55, J56, v59, rfl, b60, b61, o62⟩ := b52
              have I57 := I48.call J56 (tm_sub (by decide)) (Or.inl rfl)
              have t63 := J56.up t50
              have := mz_hi v59
              refine mv_if_neZ (tgt := 64) (a := v59.toInt) d_Reader_sum_59 (by decide) rfl (fun b64 => ?_) (fun b64 => ?_)
              · have q65 := o62 (by omega)
                refine mv_aload_n d_Reader_sum_64 rfl rfl ?_
                refine mv_iload_n d_Reader_sum_65 rfl rfl ?_
                refine mv_iconst (v := 0) d_Reader_sum_66 (by decide) ?_
                obtain ⟨_, b72, -⟩ := I57.1 _ _ t63
                refine mv_callV (kc' := 0) (ks' := 0) (As := [.int 3, .int 0]) (st9 := [.int 0, .int 3, .ref o0]) d_Reader_sum_67 lV_Reader_203 b72 rfl (tc_Reader_emit (d := (d + 12)) (x9 := x9) (o0 := o0) (x1 := 3) (x2 := 0) t63 I57.start) rfl (Nat.le_of_ble_eq_true rfl) (Nat.le_of_ble_eq_true rfl) (Nat.le_of_ble_eq_true rfl) (hst := rfl) (fun b66r M67 n68 b66 => ?_)
                obtain ⟨T69, J70, rfl⟩ := b66
                have I71 := I57.call J70 (tm_sub (by decide)) (Or.inl rfl)
                have t73 := J70.up t63
                have q74 := J70.keep t63 (by decide) q65
                refine mv_iinc (v := (i1_15 + 1)) (lv' := [(1, .int (i1_15 + 1)), (2, .int 3), (0, .ref o0)]) d_Reader_sum_70 rfl rfl (by decide) rfl ?_
                refine mv_goto (tgt := 11) d_Reader_sum_73 (by decide) ?_
                refine mv_locals (lv' := [(1, .int (i1_15 + 1)), (0, .ref o0)]) (by intro q hq; simp only [List.mem_cons, List.not_mem_nil, or_false] at hq; rcases hq with rfl | rfl <;> rfl) ?_
                have b75 : (i1_15 + 1).toInt = i1_15.toInt + 1 := mz_addn 1 1 (by decide) (by have := mz_lo i1_15; omega) (by have := mz_hi i1_15; omega)
                exact (ih15 (i1_15 + 1) T69 M67 n68 I71 t73 (by first | omega | decide) q74 (by omega))
              · refine mv_iconst (v := 0) d_Reader_sum_62 (by decide) ?_
                exact mv_iret d_Reader_sum_63 rfl (by decide) ⟨_, I57, _, rfl, by decide, by decide, fun h => absurd h (by decide)⟩
            · refine mv_iconst (v := 2) d_Reader_sum_45 (by decide) ?_
              refine mv_goto (tgt := 50) d_Reader_sum_46 (by decide) ?_
              refine mv_istore_n (lv' := [(2, .int 2), (1, .int i1_15), (0, .ref o0)]) d_Reader_sum_50 rfl (by decide) rfl ?_
              refine mv_aload_n d_Reader_sum_51 rfl rfl ?_
              obtain ⟨_, b82, -⟩ := I35.1 _ _ t40
              refine mv_callV (kc' := 0) (ks' := 0) (As := []) (st9 := [.ref o0]) d_Reader_sum_52 lV_Reader_82 b82 rfl (tc_Reader_advance (d := (d + 12)) (x9 := x9) (o0 := o0) t40 I35.start) rfl (Nat.le_of_ble_eq_true rfl) (Nat.le_of_ble_eq_true rfl) (Nat.le_of_ble_eq_true rfl) (hst := rfl) (fun b76r M77 n78 b76 => ?_)
              obtain ⟨T79, J80, rfl⟩ := b76
              have I81 := I35.call J80 (tm_sub (by decide)) (Or.inl rfl)
              have t83 := J80.up t40
              have q84 := J80.keep t40 (by decide) q41
              refine mv_aload_n d_Reader_sum_55 rfl rfl ?_
              obtain ⟨_, b91, -⟩ := I81.1 _ _ t83
              refine mv_callV (kc' := 0) (ks' := 0) (As := []) (st9 := [.ref o0]) d_Reader_sum_56 lV_Reader_218 b91 rfl (tc_Reader_product_q3 (d := d) (x9 := x9) (o0 := o0) t83 (p := p) q84 (by omega) I81.start) rfl (Nat.le_of_ble_eq_true rfl) (Nat.le_of_ble_eq_true rfl) (Nat.le_of_ble_eq_true rfl) (hst := rfl) (fun b85r M86 n87 b85 => ?_)
              obtain ⟨T88, J89, v92, rfl, b93, b94, o95⟩ := b85
              have I90 := I81.call J89 (tm_sub (by decide)) (Or.inl rfl)
              have t96 := J89.up t83
              have := mz_hi v92
              refine mv_if_neZ (tgt := 64) (a := v92.toInt) d_Reader_sum_59 (by decide) rfl (fun b97 => ?_) (fun b97 => ?_)
              · have q98 := o95 (by omega)
                refine mv_aload_n d_Reader_sum_64 rfl rfl ?_
                refine mv_iload_n d_Reader_sum_65 rfl rfl ?_
                refine mv_iconst (v := 0) d_Reader_sum_66 (by decide) ?_
                obtain ⟨_, b105, -⟩ := I90.1 _ _ t96
                refine mv_callV (kc' := 0) (ks' := 0) (As := [.int 2, .int 0]) (st9 := [.int 0, .int 2, .ref o0]) d_Reader_sum_67 lV_Reader_203 b105 rfl (tc_Reader_emit (d := (d + 12)) (x9 := x9) (o0 := o0) (x1 := 2) (x2 := 0) t96 I90.start) rfl (Nat.le_of_ble_eq_true rfl) (Nat.le_of_ble_eq_true rfl) (Nat.le_of_ble_eq_true rfl) (hst := rfl) (fun b99r M100 n101 b99 => ?_)
                obtain ⟨T102, J103, rfl⟩ := b99
                have I104 := I90.call J103 (tm_sub (by decide)) (Or.inl rfl)
                have t106 := J103.up t96
                have q107 := J103.keep t96 (by decide) q98
                refine mv_iinc (v := (i1_15 + 1)) (lv' := [(1, .int (i1_15 + 1)), (2, .int 2), (0, .ref o0)]) d_Reader_sum_70 rfl rfl (by decide) rfl ?_
                refine mv_goto (tgt := 11) d_Reader_sum_73 (by decide) ?_
                refine mv_locals (lv' := [(1, .int (i1_15 + 1)), (0, .ref o0)]) (by intro q hq; simp only [List.mem_cons, List.not_mem_nil, or_false] at hq; rcases hq with rfl | rfl <;> rfl) ?_
                have b108 : (i1_15 + 1).toInt = i1_15.toInt + 1 := mz_addn 1 1 (by decide) (by have := mz_lo i1_15; omega) (by have := mz_hi i1_15; omega)
                exact (ih15 (i1_15 + 1) T102 M100 n101 I104 t106 (by first | omega | decide) q107 (by omega))
              · refine mv_iconst (v := 0) d_Reader_sum_62 (by decide) ?_
                exact mv_iret d_Reader_sum_63 rfl (by decide) ⟨_, I90, _, rfl, by decide, by decide, fun h => absurd h (by decide)⟩
          · refine mv_aload_n d_Reader_sum_27 rfl rfl ?_
            refine mv_bipush (v := 45) d_Reader_sum_28 (by decide) ?_
            obtain ⟨_, b115, -⟩ := I22.1 _ _ t27
            refine mv_callV (kc' := 0) (ks' := 0) (As := [.int 45]) (st9 := [.int 45, .ref o0]) d_Reader_sum_30 lV_Reader_209 b115 rfl (tc_Reader_isSign (d := (d + 12)) (x9 := x9) (o0 := o0) (x1 := 45) t27 I22.start) rfl (Nat.le_of_ble_eq_true rfl) (Nat.le_of_ble_eq_true rfl) (Nat.le_of_ble_eq_true rfl) (hst := rfl) (fun b109r M110 n111 b109 => ?_)
            obtain ⟨T112, J113, v116, rfl, b117, b118⟩ := b109
            have I114 := I22.call J113 (tm_sub (by decide)) (Or.inl rfl)
            have t119 := J113.up t27
            have q120 := J113.keep t27 (by decide) q28
            have := mz_hi v116
            refine mv_if_eqZ (tgt := 76) (a := v116.toInt) d_Reader_sum_33 (by decide) rfl (fun b121 => ?_) (fun b121 => ?_)
            · refine mv_iconst (v := 1) d_Reader_sum_76 (by decide) ?_
              exact mv_iret d_Reader_sum_77 rfl (by decide) ⟨_, I114, _, rfl, by decide, by decide, fun _ => q120⟩
            · refine mv_aload_n d_Reader_sum_36 rfl rfl ?_
              refine mv_bipush (v := 43) d_Reader_sum_37 (by decide) ?_
              obtain ⟨_, b128, -⟩ := I114.1 _ _ t119
              refine mv_callV (kc' := 0) (ks' := 0) (As := [.int 43]) (st9 := [.int 43, .ref o0]) d_Reader_sum_39 lV_Reader_209 b128 rfl (tc_Reader_isSign (d := (d + 12)) (x9 := x9) (o0 := o0) (x1 := 43) t119 I114.start) rfl (Nat.le_of_ble_eq_true rfl) (Nat.le_of_ble_eq_true rfl) (Nat.le_of_ble_eq_true rfl) (hst := rfl) (fun b122r M123 n124 b122 => ?_)
              obtain ⟨T125, J126, v129, rfl, b130, b131⟩ := b122
              have I127 := I114.call J126 (tm_sub (by decide)) (Or.inl rfl)
              have t132 := J126.up t119
              have q133 := J126.keep t119 (by decide) q120
              have := mz_hi v129
              refine mv_if_eqZ (tgt := 49) (a := v129.toInt) d_Reader_sum_42 (by decide) rfl (fun b134 => ?_) (fun b134 => ?_)
              · refine mv_iconst (v := 3) d_Reader_sum_49 (by decide) ?_
                refine mv_istore_n (lv' := [(2, .int 3), (1, .int i1_15), (0, .ref o0)]) d_Reader_sum_50 rfl (by decide) rfl ?_
                refine mv_aload_n d_Reader_sum_51 rfl rfl ?_
                obtain ⟨_, b141, -⟩ := I127.1 _ _ t132
                refine mv_callV (kc' := 0) (ks' := 0) (As := []) (st9 := [.ref o0]) d_Reader_sum_52 lV_Reader_82 b141 rfl (tc_Reader_advance (d := (d + 12)) (x9 := x9) (o0 := o0) t132 I127.start) rfl (Nat.le_of_ble_eq_true rfl) (Nat.le_of_ble_eq_true rfl) (Nat.le_of_ble_eq_true rfl) (hst := rfl) (fun b135r M136 n137 b135 => ?_)
                obtain ⟨T138, J139, rfl⟩ := b135
                have I140 := I127.call J139 (tm_sub (by decide)) (Or.inl rfl)
                have t142 := J139.up t132
                have q143 := J139.keep t132 (by decide) q133
                refine mv_aload_n d_Reader_sum_55 rfl rfl ?_
                obtain ⟨_, b150, -⟩ := I140.1 _ _ t142
                refine mv_callV (kc' := 0) (ks' := 0) (As := []) (st9 := [.ref o0]) d_Reader_sum_56 lV_Reader_218 b150 rfl (tc_Reader_product_q3 (d := d) (x9 := x9) (o0 := o0) t142 (p := p) q143 (by omega) I140.start) rfl (Nat.le_of_ble_eq_true rfl) (Nat.le_of_ble_eq_true rfl) (Nat.le_of_ble_eq_true rfl) (hst := rfl) (fun b144r M145 n146 b144 => ?_)
                obtain ⟨T147, J148, v151, rfl, b152, b153, o154⟩ := b144
                have I149 := I140.call J148 (tm_sub (by decide)) (Or.inl rfl)
                have t155 := J148.up t142
                have := mz_hi v151
                refine mv_if_neZ (tgt := 64) (a := v151.toInt) d_Reader_sum_59 (by decide) rfl (fun b156 => ?_) (fun b156 => ?_)
                · have q157 := o154 (by omega)
                  refine mv_aload_n d_Reader_sum_64 rfl rfl ?_
                  refine mv_iload_n d_Reader_sum_65 rfl rfl ?_
                  refine mv_iconst (v := 0) d_Reader_sum_66 (by decide) ?_
                  obtain ⟨_, b164, -⟩ := I149.1 _ _ t155
                  refine mv_callV (kc' := 0) (ks' := 0) (As := [.int 3, .int 0]) (st9 := [.int 0, .int 3, .ref o0]) d_Reader_sum_67 lV_Reader_203 b164 rfl (tc_Reader_emit (d := (d + 12)) (x9 := x9) (o0 := o0) (x1 := 3) (x2 := 0) t155 I149.start) rfl (Nat.le_of_ble_eq_true rfl) (Nat.le_of_ble_eq_true rfl) (Nat.le_of_ble_eq_true rfl) (hst := rfl) (fun b158r M159 n160 b158 => ?_)
                  obtain ⟨T161, J162, rfl⟩ := b158
                  have I163 := I149.call J162 (tm_sub (by decide)) (Or.inl rfl)
                  have t165 := J162.up t155
                  have q166 := J162.keep t155 (by decide) q157
                  refine mv_iinc (v := (i1_15 + 1)) (lv' := [(1, .int (i1_15 + 1)), (2, .int 3), (0, .ref o0)]) d_Reader_sum_70 rfl rfl (by decide) rfl ?_
                  refine mv_goto (tgt := 11) d_Reader_sum_73 (by decide) ?_
                  refine mv_locals (lv' := [(1, .int (i1_15 + 1)), (0, .ref o0)]) (by intro q hq; simp only [List.mem_cons, List.not_mem_nil, or_false] at hq; rcases hq with rfl | rfl <;> rfl) ?_
                  have b167 : (i1_15 + 1).toInt = i1_15.toInt + 1 := mz_addn 1 1 (by decide) (by have := mz_lo i1_15; omega) (by have := mz_hi i1_15; omega)
                  exact (ih15 (i1_15 + 1) T161 M159 n160 I163 t165 (by first | omega | decide) q166 (by omega))
                · refine mv_iconst (v := 0) d_Reader_sum_62 (by decide) ?_
                  exact mv_iret d_Reader_sum_63 rfl (by decide) ⟨_, I149, _, rfl, by decide, by decide, fun h => absurd h (by decide)⟩
              · refine mv_iconst (v := 2) d_Reader_sum_45 (by decide) ?_
                refine mv_goto (tgt := 50) d_Reader_sum_46 (by decide) ?_
                refine mv_istore_n (lv' := [(2, .int 2), (1, .int i1_15), (0, .ref o0)]) d_Reader_sum_50 rfl (by decide) rfl ?_
                refine mv_aload_n d_Reader_sum_51 rfl rfl ?_
                obtain ⟨_, b174, -⟩ := I127.1 _ _ t132
                refine mv_callV (kc' := 0) (ks' := 0) (As := []) (st9 := [.ref o0]) d_Reader_sum_52 lV_Reader_82 b174 rfl (tc_Reader_advance (d := (d + 12)) (x9 := x9) (o0 := o0) t132 I127.start) rfl (Nat.le_of_ble_eq_true rfl) (Nat.le_of_ble_eq_true rfl) (Nat.le_of_ble_eq_true rfl) (hst := rfl) (fun b168r M169 n170 b168 => ?_)
                obtain ⟨T171, J172, rfl⟩ := b168
                have I173 := I127.call J172 (tm_sub (by decide)) (Or.inl rfl)
                have t175 := J172.up t132
                have q176 := J172.keep t132 (by decide) q133
                refine mv_aload_n d_Reader_sum_55 rfl rfl ?_
                obtain ⟨_, b183, -⟩ := I173.1 _ _ t175
                refine mv_callV (kc' := 0) (ks' := 0) (As := []) (st9 := [.ref o0]) d_Reader_sum_56 lV_Reader_218 b183 rfl (tc_Reader_product_q3 (d := d) (x9 := x9) (o0 := o0) t175 (p := p) q176 (by omega) I173.start) rfl (Nat.le_of_ble_eq_true rfl) (Nat.le_of_ble_eq_true rfl) (Nat.le_of_ble_eq_true rfl) (hst := rfl) (fun b177r M178 n179 b177 => ?_)
                obtain ⟨T180, J181, v184, rfl, b185, b186, o187⟩ := b177
                have I182 := I173.call J181 (tm_sub (by decide)) (Or.inl rfl)
                have t188 := J181.up t175
                have := mz_hi v184
                refine mv_if_neZ (tgt := 64) (a := v184.toInt) d_Reader_sum_59 (by decide) rfl (fun b189 => ?_) (fun b189 => ?_)
                · have q190 := o187 (by omega)
                  refine mv_aload_n d_Reader_sum_64 rfl rfl ?_
                  refine mv_iload_n d_Reader_sum_65 rfl rfl ?_
                  refine mv_iconst (v := 0) d_Reader_sum_66 (by decide) ?_
                  obtain ⟨_, b197, -⟩ := I182.1 _ _ t188
                  refine mv_callV (kc' := 0) (ks' := 0) (As := [.int 2, .int 0]) (st9 := [.int 0, .int 2, .ref o0]) d_Reader_sum_67 lV_Reader_203 b197 rfl (tc_Reader_emit (d := (d + 12)) (x9 := x9) (o0 := o0) (x1 := 2) (x2 := 0) t188 I182.start) rfl (Nat.le_of_ble_eq_true rfl) (Nat.le_of_ble_eq_true rfl) (Nat.le_of_ble_eq_true rfl) (hst := rfl) (fun b191r M192 n193 b191 => ?_)
                  obtain ⟨T194, J195, rfl⟩ := b191
                  have I196 := I182.call J195 (tm_sub (by decide)) (Or.inl rfl)
                  have t198 := J195.up t188
                  have q199 := J195.keep t188 (by decide) q190
                  refine mv_iinc (v := (i1_15 + 1)) (lv' := [(1, .int (i1_15 + 1)), (2, .int 2), (0, .ref o0)]) d_Reader_sum_70 rfl rfl (by decide) rfl ?_
                  refine mv_goto (tgt := 11) d_Reader_sum_73 (by decide) ?_
                  refine mv_locals (lv' := [(1, .int (i1_15 + 1)), (0, .ref o0)]) (by intro q hq; simp only [List.mem_cons, List.not_mem_nil, or_false] at hq; rcases hq with rfl | rfl <;> rfl) ?_
                  have b200 : (i1_15 + 1).toInt = i1_15.toInt + 1 := mz_addn 1 1 (by decide) (by have := mz_lo i1_15; omega) (by have := mz_hi i1_15; omega)
                  exact (ih15 (i1_15 + 1) T194 M192 n193 I196 t198 (by first | omega | decide) q199 (by omega))
                · refine mv_iconst (v := 0) d_Reader_sum_62 (by decide) ?_
                  exact mv_iret d_Reader_sum_63 rfl (by decide) ⟨_, I182, _, rfl, by decide, by decide, fun h => absurd h (by decide)⟩
    exact mv_less (Nat.zero_le _) (Nat.zero_le _) (L11_15 4294967296 0 T4 M2 n3 I6 t12 (by first | omega | decide) q14 (by show (2147483647 - (0 : Int) : Int) < _; decide))
  · refine mv_iconst (v := 0) d_Reader_sum_7 (by decide) ?_
    exact mv_iret d_Reader_sum_8 rfl (by decide) ⟨_, I6, _, rfl, by decide, by decide, fun h => absurd h (by decide)⟩
def w_Reader_factor_q4 : List Nat := [901, 902, 909, 910, 911, 912, 913, 914, 916, 918, 967]
theorem tc_Reader_factor_q4 {g : mj_G} {l : Launch} {d : Nat} {T0 : tm_H} {M0 : mj_M} {n0 x9 : Nat} {o0 : Nat} (h_o0 : T0 o0 = some (0, 9, 0)) {p : Int32} (hO : tm_at M0 o0 9 16 (.int p)) (hp : 0 ≤ p.toInt) (I0 : tm_I tm_FT (tm_in w_Reader_factor_q4) x9 T0 M0 n0 T0 M0 n0) : mj_Met g l kY_Reader_factor (d + 14) [.ref o0] M0 n0 0 0 (tm_Q tm_FT (tm_in w_Reader_factor_q4) x9 T0 M0 n0 (fun r _ M => ∃ v : Int32, r = some (.int v) ∧ 0 ≤ v.toInt ∧ v.toInt ≤ 1 ∧ (v.toInt = 1 → tm_at M o0 9 16 (.int p)))) := by
  refine mj_enter (by decide) (Nat.le_of_ble_eq_true rfl) ?_
  refine mv_aload_n d_Reader_factor_0 rfl rfl ?_
  obtain ⟨v2, q1⟩ := tm_atI I0 h_o0 (k := 10) rfl
  refine tr_getK q1 d_Reader_factor_1 f_Reader_41_9 ?_
  refine mv_iconst (v := 2) d_Reader_factor_4 (by decide) ?_
  have := mz_hi v2
  refine mv_icmp_neZ (tgt := 32) (a := v2.toInt) (b := 2) d_Reader_factor_5 (by decide) rfl (by decide) (fun b3 => ?_) (fun b3 => ?_)
  · refine mv_aload_n d_Reader_factor_32 rfl rfl ?_
    refine tr_getK (k := 10) q1 d_Reader_factor_33 f_Reader_41_9 ?_
    refine mv_iconst (v := 1) d_Reader_factor_36 (by decide) ?_
    have := mz_hi v2
    refine mv_icmp_neZ (tgt := 73) (a := v2.toInt) (b := 1) d_Reader_factor_37 (by decide) rfl (by decide) (fun b4 => ?_) (fun b4 => ?_)
    · refine mv_aload_n d_Reader_factor_73 rfl rfl ?_
      refine mv_bipush (v := 40) d_Reader_factor_74 (by decide) ?_
      obtain ⟨_, b11, -⟩ := I0.1 _ _ h_o0
      refine mv_callV (kc' := 0) (ks' := 0) (As := [.int 40]) (st9 := [.int 40, .ref o0]) d_Reader_factor_76 lV_Reader_209 b11 rfl (tc_Reader_isSign (d := (d + 13)) (x9 := x9) (o0 := o0) (x1 := 40) h_o0 I0.start) rfl (Nat.le_of_ble_eq_true rfl) (Nat.le_of_ble_eq_true rfl) (Nat.le_of_ble_eq_true rfl) (hst := rfl) (fun b5r M6 n7 b5 => ?_)
      obtain ⟨T8, J9, v12, rfl, b13, b14⟩ := b5
      have I10 := I0.call J9 (tm_sub (by decide)) (Or.inl rfl)
      have t15 := J9.up h_o0
      have q16 := J9.keep h_o0 (by decide) hO
      have q17 := J9.keep h_o0 (by decide) q1
      have := mz_hi v12
      refine mv_if_neZ (tgt := 88) (a := v12.toInt) d_Reader_factor_79 (by decide) rfl (fun b18 => ?_) (fun b18 => ?_)
      · refine mv_aload_n d_Reader_factor_88 rfl rfl ?_
        obtain ⟨_, b25, -⟩ := I10.1 _ _ t15
        refine mv_callV (kc' := 0) (ks' := 0) (As := []) (st9 := [.ref o0]) d_Reader_factor_89 lV_Reader_212 b25 rfl (tc_Reader_openBracket_q4 (d := (d + 12)) (x9 := x9) (o0 := o0) t15 (p := p) q16 (by omega) I10.start) rfl (Nat.le_of_ble_eq_true rfl) (Nat.le_of_ble_eq_true rfl) (Nat.le_of_ble_eq_true rfl) (hst := rfl) (fun b19r M20 n21 b19 => ?_)
        obtain ⟨T22, J23, v26, rfl, b27, b28, o29⟩ := b19
        have I24 := I10.call J23 (tm_sub (by decide)) (Or.inl rfl)
        have t30 := J23.up t15
        have := mz_hi v26
        refine mv_if_eqZ (tgt := 102) (a := v26.toInt) d_Reader_factor_92 (by decide) rfl (fun b31 => ?_) (fun b31 => ?_)
        · refine mv_iconst (v := 0) d_Reader_factor_102 (by decide) ?_
          exact mv_iret d_Reader_factor_103 rfl (by decide) ⟨_, I24, _, rfl, by decide, by decide, fun h => absurd h (by decide)⟩
        · obtain ⟨b33, q32⟩ := o29 (by omega)
          have b34 : (p + 1).toInt = p.toInt + 1 := mz_addn 1 1 (by decide) (by have := mz_lo p; omega) (by have := mz_hi p; omega)
          refine mv_aload_n d_Reader_factor_95 rfl rfl ?_
          obtain ⟨_, b41, -⟩ := I24.1 _ _ t30
          refine mv_callV (kc' := 0) (ks' := 0) (As := []) (st9 := [.ref o0]) d_Reader_factor_96 lV_Reader_186 b41 rfl (tc_Reader_sum_q3 (d := d) (x9 := x9) (o0 := o0) t30 (p := (p + 1)) q32 (by omega) I24.start) rfl (Nat.le_of_ble_eq_true rfl) (Nat.le_of_ble_eq_true rfl) (Nat.le_of_ble_eq_true rfl) (hst := rfl) (fun b35r M36 n37 b35 => ?_)
          obtain ⟨T38, J39, v42, rfl, b43, b44, o45⟩ := b35
          have I40 := I24.call J39 (tm_sub (by decide)) (Or.inl rfl)
          have t46 := J39.up t30
          have := mz_hi v42
          refine mv_if_neZ (tgt := 104) (a := v42.toInt) d_Reader_factor_99 (by decide) rfl (fun b47 => ?_) (fun b47 => ?_)
          · have q48 := o45 (by omega)
            refine mv_aload_n d_Reader_factor_104 rfl rfl ?_
            refine mv_dup d_Reader_factor_105 rfl ?_
            refine tr_getK (k := 16) q48 d_Reader_factor_106 f_Reader_73_9 ?_
            refine mv_iconst (v := 1) d_Reader_factor_109 (by decide) ?_
            refine mv_isubv (v := p) d_Reader_factor_110 (Int32.add_sub_cancel _ _) ?_
            refine tr_putK tm_okF I40 t46 (k := 16) rfl ⟨_, rfl⟩ (Or.inl (by decide)) d_Reader_factor_111 p_Reader_73_9 rfl rfl (fun M49 I50 q51 K52 => ?_)
            refine mv_aload_n d_Reader_factor_114 rfl rfl ?_
            refine mv_bipush (v := 41) d_Reader_factor_115 (by decide) ?_
            obtain ⟨_, b59, -⟩ := I50.1 _ _ t46
            refine mv_callV (kc' := 0) (ks' := 0) (As := [.int 41]) (st9 := [.int 41, .ref o0]) d_Reader_factor_117 lV_Reader_63 b59 rfl (tc_Reader_sign (d := (d + 12)) (x9 := x9) (o0 := o0) (x1 := 41) t46 I50.start) rfl (Nat.le_of_ble_eq_true rfl) (Nat.le_of_ble_eq_true rfl) (Nat.le_of_ble_eq_true rfl) (hst := rfl) (fun b53r M54 n55 b53 => ?_)
            obtain ⟨T56, J57, v60, rfl, b61, b62⟩ := b53
            have I58 := I50.call J57 (tm_sub (by decide)) (Or.inl rfl)
            have t63 := J57.up t46
            have q64 := J57.keep t46 (by decide) q51
            exact mv_iret d_Reader_factor_120 rfl (mz_nb (by omega) (by omega)) ⟨_, I58, _, rfl, by omega, by omega, fun _ => q64⟩
          · refine mv_iconst (v := 0) d_Reader_factor_102 (by decide) ?_
            exact mv_iret d_Reader_factor_103 rfl (by decide) ⟨_, I40, _, rfl, by decide, by decide, fun h => absurd h (by decide)⟩
      · refine mv_aload_n d_Reader_factor_82 rfl rfl ?_
        refine mv_iconst (v := 1) d_Reader_factor_83 (by decide) ?_
        obtain ⟨_, b71, -⟩ := I10.1 _ _ t15
        refine mv_callV (kc' := 0) (ks' := 0) (As := [.int 1]) (st9 := [.int 1, .ref o0]) d_Reader_factor_84 lV_Reader_56 b71 rfl (tc_Reader_refuse (d := (d + 13)) (x9 := x9) (o0 := o0) (x1 := 1) t15 I10.start) rfl (Nat.le_of_ble_eq_true rfl) (Nat.le_of_ble_eq_true rfl) (Nat.le_of_ble_eq_true rfl) (hst := rfl) (fun b65r M66 n67 b65 => ?_)
        obtain ⟨T68, J69, rfl⟩ := b65
        have I70 := I10.call J69 (tm_sub (by decide)) (Or.inl rfl)
        have t72 := J69.up t15
        have q73 := J69.keep t15 (by decide) q16
        have q74 := J69.keep t15 (by decide) q17
        exact mv_iret d_Reader_factor_87 rfl (by decide) ⟨_, I70, _, rfl, by decide, by decide, fun h => absurd h (by decide)⟩
    · refine mv_aload_n d_Reader_factor_40 rfl rfl ?_
      refine mv_iconst (v := 0) d_Reader_factor_41 (by decide) ?_
      refine mv_aload_n d_Reader_factor_42 rfl rfl ?_
      obtain ⟨v76, q75⟩ := tm_atI I0 h_o0 (k := 15) rfl
      refine tr_getK q75 d_Reader_factor_43 f_Reader_67_9 ?_
      obtain ⟨_, b83, -⟩ := I0.1 _ _ h_o0
      refine mv_callV (kc' := 0) (ks' := 0) (As := [.int 0, .int v76]) (st9 := [.int v76, .int 0, .ref o0]) d_Reader_factor_46 lV_Reader_85 b83 rfl (tc_Reader_valueAmong (d := (d + 13)) (x9 := x9) (o0 := o0) (x1 := 0) (x2 := v76) h_o0 I0.start) rfl (Nat.le_of_ble_eq_true rfl) (Nat.le_of_ble_eq_true rfl) (Nat.le_of_ble_eq_true rfl) (hst := rfl) (fun b77r M78 n79 b77 => ?_)
      obtain ⟨T80, J81, v84, rfl⟩ := b77
      have I82 := I0.call J81 (tm_sub (by decide)) (Or.inl rfl)
      have t85 := J81.up h_o0
      have q86 := J81.keep h_o0 (by decide) hO
      have q87 := J81.keep h_o0 (by decide) q1
      have q88 := J81.keep h_o0 (by decide) q75
      refine mv_istore_n (lv' := [(1, .int v84), (0, .ref o0)]) d_Reader_factor_49 rfl (by decide) rfl ?_
      refine mv_iload_n d_Reader_factor_50 rfl rfl ?_
      refine mv_iconst (v := (-1)) d_Reader_factor_51 (by decide) ?_
      have := mz_hi v84
      refine mv_icmp_neZ (tgt := 61) (a := v84.toInt) (b := (-1)) d_Reader_factor_52 (by decide) rfl (by decide) (fun b89 => ?_) (fun b89 => ?_)
      · refine mv_aload_n d_Reader_factor_61 rfl rfl ?_
        refine mv_iconst (v := 1) d_Reader_factor_62 (by decide) ?_
        refine mv_iload_n d_Reader_factor_63 rfl rfl ?_
        obtain ⟨_, b96, -⟩ := I82.1 _ _ t85
        refine mv_callV (kc' := 0) (ks' := 0) (As := [.int 1, .int v84]) (st9 := [.int v84, .int 1, .ref o0]) d_Reader_factor_64 lV_Reader_203 b96 rfl (tc_Reader_emit (d := (d + 13)) (x9 := x9) (o0 := o0) (x1 := 1) (x2 := v84) t85 I82.start) rfl (Nat.le_of_ble_eq_true rfl) (Nat.le_of_ble_eq_true rfl) (Nat.le_of_ble_eq_true rfl) (hst := rfl) (fun b90r M91 n92 b90 => ?_)
        obtain ⟨T93, J94, rfl⟩ := b90
        have I95 := I82.call J94 (tm_sub (by decide)) (Or.inl rfl)
        have t97 := J94.up t85
        have q98 := J94.keep t85 (by decide) q86
        have q99 := J94.keep t85 (by decide) q87
        have q100 := J94.keep t85 (by decide) q88
        refine mv_aload_n d_Reader_factor_67 rfl rfl ?_
        obtain ⟨_, b107, -⟩ := I95.1 _ _ t97
        refine mv_callV (kc' := 0) (ks' := 0) (As := []) (st9 := [.ref o0]) d_Reader_factor_68 lV_Reader_82 b107 rfl (tc_Reader_advance (d := (d + 13)) (x9 := x9) (o0 := o0) t97 I95.start) rfl (Nat.le_of_ble_eq_true rfl) (Nat.le_of_ble_eq_true rfl) (Nat.le_of_ble_eq_true rfl) (hst := rfl) (fun b101r M102 n103 b101 => ?_)
        obtain ⟨T104, J105, rfl⟩ := b101
        have I106 := I95.call J105 (tm_sub (by decide)) (Or.inl rfl)
        have t108 := J105.up t97
        have q109 := J105.keep t97 (by decide) q98
        have q110 := J105.keep t97 (by decide) q100
        refine mv_iconst (v := 1) d_Reader_factor_71 (by decide) ?_
        exact mv_iret d_Reader_factor_72 rfl (by decide) ⟨_, I106, _, rfl, by decide, by decide, fun _ => q109⟩
      · refine mv_aload_n d_Reader_factor_55 rfl rfl ?_
        refine mv_iconst (v := 3) d_Reader_factor_56 (by decide) ?_
        obtain ⟨_, b117, -⟩ := I82.1 _ _ t85
        refine mv_callV (kc' := 0) (ks' := 0) (As := [.int 3]) (st9 := [.int 3, .ref o0]) d_Reader_factor_57 lV_Reader_56 b117 rfl (tc_Reader_refuse (d := (d + 13)) (x9 := x9) (o0 := o0) (x1 := 3) t85 I82.start) rfl (Nat.le_of_ble_eq_true rfl) (Nat.le_of_ble_eq_true rfl) (Nat.le_of_ble_eq_true rfl) (hst := rfl) (fun b111r M112 n113 b111 => ?_)
        obtain ⟨T114, J115, rfl⟩ := b111
        have I116 := I82.call J115 (tm_sub (by decide)) (Or.inl rfl)
        have t118 := J115.up t85
        have q119 := J115.keep t85 (by decide) q86
        have q120 := J115.keep t85 (by decide) q87
        have q121 := J115.keep t85 (by decide) q88
        exact mv_iret d_Reader_factor_60 rfl (by decide) ⟨_, I116, _, rfl, by decide, by decide, fun h => absurd h (by decide)⟩
  · refine mv_aload_n d_Reader_factor_8 rfl rfl ?_
    refine mv_iconst (v := 0) d_Reader_factor_9 (by decide) ?_
    refine mv_sipush (v := 9999) d_Reader_factor_10 (by decide) ?_
    obtain ⟨_, b128, -⟩ := I0.1 _ _ h_o0
    refine mv_callV (kc' := 0) (ks' := 0) (As := [.int 0, .int 9999]) (st9 := [.int 9999, .int 0, .ref o0]) d_Reader_factor_13 lV_Reader_107 b128 rfl (tc_Reader_numeral (d := (d + 12)) (x9 := x9) (o0 := o0) (x1 := 0) (x2 := 9999) h_o0 I0.start) rfl (Nat.le_of_ble_eq_true rfl) (Nat.le_of_ble_eq_true rfl) (Nat.le_of_ble_eq_true rfl) (hst := rfl) (fun b122r M123 n124 b122 => ?_)
    obtain ⟨T125, J126, v129, rfl, b130, b131⟩ := b122
    have I127 := I0.call J126 (tm_sub (by decide)) (Or.inl rfl)
    have t132 := J126.up h_o0
    have q133 := J126.keep h_o0 (by decide) hO
    have := mz_hi v129
    refine mv_if_neZ (tgt := 21) (a := v129.toInt) d_Reader_factor_16 (by decide) rfl (fun b134 => ?_) (fun b134 => ?_)
    · refine mv_aload_n d_Reader_factor_21 rfl rfl ?_
      refine mv_iconst (v := 0) d_Reader_factor_22 (by decide) ?_
      refine mv_aload_n d_Reader_factor_23 rfl rfl ?_
      obtain ⟨v136, q135⟩ := tm_atI I127 t132 (k := 14) rfl
      refine tr_getK q135 d_Reader_factor_24 f_Reader_111_9 ?_
      obtain ⟨_, b143, -⟩ := I127.1 _ _ t132
      refine mv_callV (kc' := 0) (ks' := 0) (As := [.int 0, .int v136]) (st9 := [.int v136, .int 0, .ref o0]) d_Reader_factor_27 lV_Reader_203 b143 rfl (tc_Reader_emit (d := (d + 13)) (x9 := x9) (o0 := o0) (x1 := 0) (x2 := v136) t132 I127.start) rfl (Nat.le_of_ble_eq_true rfl) (Nat.le_of_ble_eq_true rfl) (Nat.le_of_ble_eq_true rfl) (hst := rfl) (fun b137r M138 n139 b137 => ?_)
      obtain ⟨T140, J141, rfl⟩ := b137
      have I142 := I127.call J141 (tm_sub (by decide)) (Or.inl rfl)
      have t144 := J141.up t132
      have q145 := J141.keep t132 (by decide) q133
      have q146 := J141.keep t132 (by decide) q135
      refine mv_iconst (v := 1) d_Reader_factor_30 (by decide) ?_
      exact mv_iret d_Reader_factor_31 rfl (by decide) ⟨_, I142, _, rfl, by decide, by decide, fun _ => q145⟩
    · refine mv_iconst (v := 0) d_Reader_factor_19 (by decide) ?_
      exact mv_iret d_Reader_factor_20 rfl (by decide) ⟨_, I127, _, rfl, by decide, by decide, fun h => absurd h (by decide)⟩
def w_Reader_product_q4 : List Nat := [901, 902, 909, 910, 911, 912, 913, 914, 916, 918, 967]
theorem tc_Reader_product_q4 {g : mj_G} {l : Launch} {d : Nat} {T0 : tm_H} {M0 : mj_M} {n0 x9 : Nat} {o0 : Nat} (h_o0 : T0 o0 = some (0, 9, 0)) {p : Int32} (hO : tm_at M0 o0 9 16 (.int p)) (hp : 0 ≤ p.toInt) (I0 : tm_I tm_FT (tm_in w_Reader_product_q4) x9 T0 M0 n0 T0 M0 n0) : mj_Met g l kY_Reader_product (d + 15) [.ref o0] M0 n0 0 0 (tm_Q tm_FT (tm_in w_Reader_product_q4) x9 T0 M0 n0 (fun r _ M => ∃ v : Int32, r = some (.int v) ∧ 0 ≤ v.toInt ∧ v.toInt ≤ 1 ∧ (v.toInt = 1 → tm_at M o0 9 16 (.int p)))) := by
  refine mj_enter (by decide) (Nat.le_of_ble_eq_true rfl) ?_
  refine mv_aload_n d_Reader_product_0 rfl rfl ?_
  obtain ⟨_, b7, -⟩ := I0.1 _ _ h_o0
  refine mv_callV (kc' := 0) (ks' := 0) (As := []) (st9 := [.ref o0]) d_Reader_product_1 lV_Reader_221 b7 rfl (tc_Reader_factor_q4 (d := d) (x9 := x9) (o0 := o0) h_o0 (p := p) hO (by omega) I0.start) rfl (Nat.le_of_ble_eq_true rfl) (Nat.le_of_ble_eq_true rfl) (Nat.le_of_ble_eq_true rfl) (hst := rfl) (fun b1r M2 n3 b1 => ?_)
  obtain ⟨T4, J5, v8, rfl, b9, b10, o11⟩ := b1
  have I6 := I0.call J5 (tm_sub (by decide)) (Or.inl rfl)
  have t12 := J5.up h_o0
  have := mz_hi v8
  refine mv_if_neZ (tgt := 9) (a := v8.toInt) d_Reader_product_4 (by decide) rfl (fun b13 => ?_) (fun b13 => ?_)
  · have q14 := o11 (by omega)
    refine mv_iconst (v := 0) d_Reader_product_9 (by decide) ?_
    refine mv_istore_n (lv' := [(1, .int 0), (0, .ref o0)]) d_Reader_product_10 rfl (by decide) rfl ?_
    have L11_15 : ∀ (k : Nat) (i1_15 : Int32) (T_15 : tm_H) (M_15 : mj_M) (n_15 : Nat), tm_I tm_FT (tm_in w_Reader_product_q4) x9 T0 M0 n0 T_15 M_15 n_15 → T_15 o0 = some (0, 9, 0) → 0 ≤ i1_15.toInt → tm_at M_15 o0 9 16 (.int p) → 2147483647 - i1_15.toInt < (k : Int) → mj_V g l kY_Reader_product (d + 15) 11 [(1, .int i1_15), (0, .ref o0)] [] M_15 n_15 0 0 (tm_Q tm_FT (tm_in w_Reader_product_q4) x9 T0 M0 n0 (fun r _ M => ∃ v : Int32, r = some (.int v) ∧ 0 ≤ v.toInt ∧ v.toInt ≤ 1 ∧ (v.toInt = 1 → tm_at M o0 9 16 (.int p)))) := by
      intro k15
      induction k15 with
      | zero =>
        intro i1_15 T_15 M_15 n_15 I_15 h_q0_15 iv0_15 kp0_15 hk15
        have := mz_hi i1_15
        omega
      | succ k15 ih15 =>
        intro i1_15 T_15 M_15 n_15 I_15 h_q0_15 iv0_15 kp0_15 hk15
        refine mv_iload_n d_Reader_product_11 rfl rfl ?_
        refine mv_sipush (v := 400) d_Reader_product_12 (by decide) ?_
        have := mz_hi i1_15
        refine mv_icmp_geZ (tgt := 52) (a := i1_15.toInt) (b := 400) d_Reader_product_15 (by decide) rfl (by decide) (fun b16 => ?_) (fun b16 => ?_)
        · refine mv_iconst (v := 1) d_Reader_product_52 (by decide) ?_
          exact mv_iret d_Reader_product_53 rfl (by decide) ⟨_, I_15, _, rfl, by decide, by decide, fun _ => kp0_15⟩
        · refine mv_aload_n d_Reader_product_18 rfl rfl ?_
          refine mv_bipush (v := 42) d_Reader_product_19 (by decide) ?_
          obtain ⟨_, b23, -⟩ := I_15.1 _ _ h_q0_15
          refine mv_callV (kc' := 0) (ks' := 0) (As := [.int 42]) (st9 := [.int 42, .ref o0]) d_Reader_product_21 lV_Reader_209 b23 rfl (tc_Reader_isSign (d := (d + 14)) (x9 := x9) (o0 := o0) (x1 := 42) h_q0_15 I_15.start) rfl (Nat.le_of_ble_eq_true rfl) (Nat.le_of_ble_eq_true rfl) (Nat.le_of_ble_eq_true rfl) (hst := rfl) (fun b17r M18 n19 b17 => ?_)
          obtain ⟨T20, J21, v24, rfl, b25, b26⟩ := b17
          have I22 := I_15.call J21 (tm_sub (by decide)) (Or.inl rfl)
          have t27 := J21.up h_q0_15
          have q28 := J21.keep h_q0_15 (by decide) kp0_15
          have := mz_hi v24
          refine mv_if_eqZ (tgt := 52) (a := v24.toInt) d_Reader_product_24 (by decide) rfl (fun b29 => ?_) (fun b29 => ?_)
          · refine mv_iconst (v := 1) d_Reader_product_52 (by decide) ?_
            exact mv_iret d_Reader_product_53 rfl (by decide) ⟨_, I22, _, rfl, by decide, by decide, fun _ => q28⟩
          · refine mv_aload_n d_Reader_product_27 rfl rfl ?_
            obtain ⟨_, b36, -⟩ := I22.1 _ _ t27
            refine mv_callV (kc' := 0) (ks' := 0) (As := []) (st9 := [.ref o0]) d_Reader_product_28 lV_Reader_82 b36 rfl (tc_Reader_advance (d := (d + 14)) (x9 := x9) (o0 := o0) t27 I22.start) rfl (Nat.le_of_ble_eq_true rfl) (Nat.le_of_ble_eq_true rfl) (Nat.le_of_ble_eq_true rfl) (hst := rfl) (fun b30r M31 n32 b30 => ?_)
            obtain ⟨T33, J34, rfl⟩ := b30
            have I35 := I22.call J34 (tm_sub (by decide)) (Or.inl rfl)
            have t37 := J34.up t27
            have q38 := J34.keep t27 (by decide) q28
            refine mv_aload_n d_Reader_product_31 rfl rfl ?_
            obtain ⟨_, b45, -⟩ := I35.1 _ _ t37
            refine mv_callV (kc' := 0) (ks' := 0) (As := []) (st9 := [.ref o0]) d_Reader_product_32 lV_Reader_221 b45 rfl (tc_Reader_factor_q4 (d := d) (x9 := x9) (o0 := o0) t37 (p := p) q38 (by omega) I35.start) rfl (Nat.le_of_ble_eq_true rfl) (Nat.le_of_ble_eq_true rfl) (Nat.le_of_ble_eq_true rfl) (hst := rfl) (fun b39r M40 n41 b39 => ?_)
            obtain ⟨T42, J43, v46, rfl, b47, b48, o49⟩ := b39
            have I44 := I35.call J43 (tm_sub (by decide)) (Or.inl rfl)
            have t50 := J43.up t37
            have := mz_hi v46
            refine mv_if_neZ (tgt := 40) (a := v46.toInt) d_Reader_product_35 (by decide) rfl (fun b51 => ?_) (fun b51 => ?_)
            · have q52 := o49 (by omega)
              refine mv_aload_n d_Reader_product_40 rfl rfl ?_
              refine mv_iconst (v := 4) d_Reader_product_41 (by decide) ?_
              refine mv_iconst (v := 0) d_Reader_product_42 (by decide) ?_
              obtain ⟨_, b59, -⟩ := I44.1 _ _ t50
              refine mv_callV (kc' := 0) (ks' := 0) (As := [.int 4, .int 0]) (st9 := [.int 0, .int 4, .ref o0]) d_Reader_product_43 lV_Reader_203 b59 rfl (tc_Reader_emit (d := (d + 14)) (x9 := x9) (o0 := o0) (x1 := 4) (x2 := 0) t50 I44.start) rfl (Nat.le_of_ble_eq_true rfl) (Nat.le_of_ble_eq_true rfl) (Nat.le_of_ble_eq_true rfl) (hst := rfl) (fun b53r M54 n55 b53 => ?_)
              obtain ⟨T56, J57, rfl⟩ := b53
              have I58 := I44.call J57 (tm_sub (by decide)) (Or.inl rfl)
              have t60 := J57.up t50
              have q61 := J57.keep t50 (by decide) q52
              refine mv_iinc (v := (i1_15 + 1)) (lv' := [(1, .int (i1_15 + 1)), (0, .ref o0)]) d_Reader_product_46 rfl rfl (by decide) rfl ?_
              refine mv_goto (tgt := 11) d_Reader_product_49 (by decide) ?_
              have b62 : (i1_15 + 1).toInt = i1_15.toInt + 1 := mz_addn 1 1 (by decide) (by have := mz_lo i1_15; omega) (by have := mz_hi i1_15; omega)
              exact (ih15 (i1_15 + 1) T56 M54 n55 I58 t60 (by first | omega | decide) q61 (by omega))
            · refine mv_iconst (v := 0) d_Reader_product_38 (by decide) ?_
              exact mv_iret d_Reader_product_39 rfl (by decide) ⟨_, I44, _, rfl, by decide, by decide, fun h => absurd h (by decide)⟩
    exact mv_less (Nat.zero_le _) (Nat.zero_le _) (L11_15 4294967296 0 T4 M2 n3 I6 t12 (by first | omega | decide) q14 (by show (2147483647 - (0 : Int) : Int) < _; decide))
  · refine mv_iconst (v := 0) d_Reader_product_7 (by decide) ?_
    exact mv_iret d_Reader_product_8 rfl (by decide) ⟨_, I6, _, rfl, by decide, by decide, fun h => absurd h (by decide)⟩
def w_Reader_sum_q4 : List Nat := [901, 902, 909, 910, 911, 912, 913, 914, 916, 918, 967]
theorem tc_Reader_sum_q4 {g : mj_G} {l : Launch} {d : Nat} {T0 : tm_H} {M0 : mj_M} {n0 x9 : Nat} {o0 : Nat} (h_o0 : T0 o0 = some (0, 9, 0)) {p : Int32} (hO : tm_at M0 o0 9 16 (.int p)) (hp : 0 ≤ p.toInt) (I0 : tm_I tm_FT (tm_in w_Reader_sum_q4) x9 T0 M0 n0 T0 M0 n0) : mj_Met g l kY_Reader_sum (d + 16) [.ref o0] M0 n0 0 0 (tm_Q tm_FT (tm_in w_Reader_sum_q4) x9 T0 M0 n0 (fun r _ M => ∃ v : Int32, r = some (.int v) ∧ 0 ≤ v.toInt ∧ v.toInt ≤ 1 ∧ (v.toInt = 1 → tm_at M o0 9 16 (.int p)))) := by
  refine mj_enter (by decide) (Nat.le_of_ble_eq_true rfl) ?_
  refine mv_aload_n d_Reader_sum_0 rfl rfl ?_
  obtain ⟨_, b7, -⟩ := I0.1 _ _ h_o0
  refine mv_callV (kc' := 0) (ks' := 0) (As := []) (st9 := [.ref o0]) d_Reader_sum_1 lV_Reader_218 b7 rfl (tc_Reader_product_q4 (d := d) (x9 := x9) (o0 := o0) h_o0 (p := p) hO (by omega) I0.start) rfl (Nat.le_of_ble_eq_true rfl) (Nat.le_of_ble_eq_true rfl) (Nat.le_of_ble_eq_true rfl) (hst := rfl) (fun b1r M2 n3 b1 => ?_)
  obtain ⟨T4, J5, v8, rfl, b9, b10, o11⟩ := b1
  have I6 := I0.call J5 (tm_sub (by decide)) (Or.inl rfl)
  have t12 := J5.up h_o0
  have := mz_hi v8
  refine mv_if_neZ (tgt := 9) (a := v8.toInt) d_Reader_sum_4 (by decide) rfl (fun b13 => ?_) (fun b13 => ?_)
  · have q14 := o11 (by omega)
    refine mv_iconst (v := 0) d_Reader_sum_9 (by decide) ?_
    refine mv_istore_n (lv' := [(1, .int 0), (0, .ref o0)]) d_Reader_sum_10 rfl (by decide) rfl ?_
    have L11_15 : ∀ (k : Nat) (i1_15 : Int32) (T_15 : tm_H) (M_15 : mj_M) (n_15 : Nat), tm_I tm_FT (tm_in w_Reader_sum_q4) x9 T0 M0 n0 T_15 M_15 n_15 → T_15 o0 = some (0, 9, 0) → 0 ≤ i1_15.toInt → tm_at M_15 o0 9 16 (.int p) → 2147483647 - i1_15.toInt < (k : Int) → mj_V g l kY_Reader_sum (d + 16) 11 [(1, .int i1_15), (0, .ref o0)] [] M_15 n_15 0 0 (tm_Q tm_FT (tm_in w_Reader_sum_q4) x9 T0 M0 n0 (fun r _ M => ∃ v : Int32, r = some (.int v) ∧ 0 ≤ v.toInt ∧ v.toInt ≤ 1 ∧ (v.toInt = 1 → tm_at M o0 9 16 (.int p)))) := by
      intro k15
      induction k15 with
      | zero =>
        intro i1_15 T_15 M_15 n_15 I_15 h_q0_15 iv0_15 kp0_15 hk15
        have := mz_hi i1_15
        omega
      | succ k15 ih15 =>
        intro i1_15 T_15 M_15 n_15 I_15 h_q0_15 iv0_15 kp0_15 hk15
        refine mv_iload_n d_Reader_sum_11 rfl rfl ?_
        refine mv_sipush (v := 400) d_Reader_sum_12 (by decide) ?_
        have := mz_hi i1_15
        refine mv_icmp_geZ (tgt := 76) (a := i1_15.toInt) (b := 400) d_Reader_sum_15 (by decide) rfl (by decide) (fun b16 => ?_) (fun b16 => ?_)
        · refine mv_iconst (v := 1) d_Reader_sum_76 (by decide) ?_
          exact mv_iret d_Reader_sum_77 rfl (by decide) ⟨_, I_15, _, rfl, by decide, by decide, fun _ => kp0_15⟩
        · refine mv_aload_n d_Reader_sum_18 rfl rfl ?_
          refine mv_bipush (v := 43) d_Reader_sum_19 (by decide) ?_
          obtain ⟨_, b23, -⟩ := I_15.1 _ _ h_q0_15
          refine mv_callV (kc' := 0) (ks' := 0) (As := [.int 43]) (st9 := [.int 43, .ref o0]) d_Reader_sum_21 lV_Reader_209 b23 rfl (tc_Reader_isSign (d := (d + 15)) (x9 := x9) (o0 := o0) (x1 := 43) h_q0_15 I_15.start) rfl (Nat.le_of_ble_eq_true rfl) (Nat.le_of_ble_eq_true rfl) (Nat.le_of_ble_eq_true rfl) (hst := rfl) (fun b17r M18 n19 b17 => ?_)
          obtain ⟨T20, J21, v24, rfl, b25, b26⟩ := b17
          have I22 := I_15.call J21 (tm_sub (by decide)) (Or.inl rfl)
          have t27 := J21.up h_q0_15
          have q28 := J21.keep h_q0_15 (by decide) kp0_15
          have := mz_hi v24
          refine mv_if_neZ (tgt := 36) (a := v24.toInt) d_Reader_sum_24 (by decide) rfl (fun b29 => ?_) (fun b29 => ?_)
          · refine mv_aload_n d_Reader_sum_36 rfl rfl ?_
            refine mv_bipush (v := 43) d_Reader_sum_37 (by decide) ?_
            obtain ⟨_, b36, -⟩ := I22.1 _ _ t27
            refine mv_callV (kc' := 0) (ks' := 0) (As := [.int 43]) (st9 := [.int 43, .ref o0]) d_Reader_sum_39 lV_Reader_209 b36 rfl (tc_Reader_isSign (d := (d + 15)) (x9 := x9) (o0 := o0) (x1 := 43) t27 I22.start) rfl (Nat.le_of_ble_eq_true rfl) (Nat.le_of_ble_eq_true rfl) (Nat.le_of_ble_eq_true rfl) (hst := rfl) (fun b30r M31 n32 b30 => ?_)
            obtain ⟨T33, J34, v37, rfl, b38, b39⟩ := b30
            have I35 := I22.call J34 (tm_sub (by decide)) (Or.inl rfl)
            have t40 := J34.up t27
            have q41 := J34.keep t27 (by decide) q28
            have := mz_hi v37
            refine mv_if_eqZ (tgt := 49) (a := v37.toInt) d_Reader_sum_42 (by decide) rfl (fun b42 => ?_) (fun b42 => ?_)
            · refine mv_iconst (v := 3) d_Reader_sum_49 (by decide) ?_
              refine mv_istore_n (lv' := [(2, .int 3), (1, .int i1_15), (0, .ref o0)]) d_Reader_sum_50 rfl (by decide) rfl ?_
              refine mv_aload_n d_Reader_sum_51 rfl rfl ?_
              obtain ⟨_, b49, -⟩ := I35.1 _ _ t40
              refine mv_callV (kc' := 0) (ks' := 0) (As := []) (st9 := [.ref o0]) d_Reader_sum_52 lV_Reader_82 b49 rfl (tc_Reader_advance (d := (d + 15)) (x9 := x9) (o0 := o0) t40 I35.start) rfl (Nat.le_of_ble_eq_true rfl) (Nat.le_of_ble_eq_true rfl) (Nat.le_of_ble_eq_true rfl) (hst := rfl) (fun b43r M44 n45 b43 => ?_)
              obtain ⟨T46, J47, rfl⟩ := b43
              have I48 := I35.call J47 (tm_sub (by decide)) (Or.inl rfl)
              have t50 := J47.up t40
              have q51 := J47.keep t40 (by decide) q41
              refine mv_aload_n d_Reader_sum_55 rfl rfl ?_
              obtain ⟨_, b58, -⟩ := I48.1 _ _ t50
              refine mv_callV (kc' := 0) (ks' := 0) (As := []) (st9 := [.ref o0]) d_Reader_sum_56 lV_Reader_218 b58 rfl (tc_Reader_product_q4 (d := d) (x9 := x9) (o0 := o0) t50 (p := p) q51 (by omega) I48.start) rfl (Nat.le_of_ble_eq_true rfl) (Nat.le_of_ble_eq_true rfl) (Nat.le_of_ble_eq_true rfl) (hst := rfl) (fun b52r M53 n54 b52 => ?_)
              obtain ⟨T55, J56, v59, rfl, b60, b61, o62⟩ := b52
              have I57 := I48.call J56 (tm_sub (by decide)) (Or.inl rfl)
              have t63 := J56.up t50
              have := mz_hi v59
              refine mv_if_neZ (tgt := 64) (a := v59.toInt) d_Reader_sum_59 (by decide) rfl (fun b64 => ?_) (fun b64 => ?_)
              · have q65 := o62 (by omega)
                refine mv_aload_n d_Reader_sum_64 rfl rfl ?_
                refine mv_iload_n d_Reader_sum_65 rfl rfl ?_
                refine mv_iconst (v := 0) d_Reader_sum_66 (by decide) ?_
                obtain ⟨_, b72, -⟩ := I57.1 _ _ t63
                refine mv_callV (kc' := 0) (ks' := 0) (As := [.int 3, .int 0]) (st9 := [.int 0, .int 3, .ref o0]) d_Reader_sum_67 lV_Reader_203 b72 rfl (tc_Reader_emit (d := (d + 15)) (x9 := x9) (o0 := o0) (x1 := 3) (x2 := 0) t63 I57.start) rfl (Nat.le_of_ble_eq_true rfl) (Nat.le_of_ble_eq_true rfl) (Nat.le_of_ble_eq_true rfl) (hst := rfl) (fun b66r M67 n68 b66 => ?_)
                obtain ⟨T69, J70, rfl⟩ := b66
                have I71 := I57.call J70 (tm_sub (by decide)) (Or.inl rfl)
                have t73 := J70.up t63
                have q74 := J70.keep t63 (by decide) q65
                refine mv_iinc (v := (i1_15 + 1)) (lv' := [(1, .int (i1_15 + 1)), (2, .int 3), (0, .ref o0)]) d_Reader_sum_70 rfl rfl (by decide) rfl ?_
                refine mv_goto (tgt := 11) d_Reader_sum_73 (by decide) ?_
                refine mv_locals (lv' := [(1, .int (i1_15 + 1)), (0, .ref o0)]) (by intro q hq; simp only [List.mem_cons, List.not_mem_nil, or_false] at hq; rcases hq with rfl | rfl <;> rfl) ?_
                have b75 : (i1_15 + 1).toInt = i1_15.toInt + 1 := mz_addn 1 1 (by decide) (by have := mz_lo i1_15; omega) (by have := mz_hi i1_15; omega)
                exact (ih15 (i1_15 + 1) T69 M67 n68 I71 t73 (by first | omega | decide) q74 (by omega))
              · refine mv_iconst (v := 0) d_Reader_sum_62 (by decide) ?_
                exact mv_iret d_Reader_sum_63 rfl (by decide) ⟨_, I57, _, rfl, by decide, by decide, fun h => absurd h (by decide)⟩
            · refine mv_iconst (v := 2) d_Reader_sum_45 (by decide) ?_
              refine mv_goto (tgt := 50) d_Reader_sum_46 (by decide) ?_
              refine mv_istore_n (lv' := [(2, .int 2), (1, .int i1_15), (0, .ref o0)]) d_Reader_sum_50 rfl (by decide) rfl ?_
              refine mv_aload_n d_Reader_sum_51 rfl rfl ?_
              obtain ⟨_, b82, -⟩ := I35.1 _ _ t40
              refine mv_callV (kc' := 0) (ks' := 0) (As := []) (st9 := [.ref o0]) d_Reader_sum_52 lV_Reader_82 b82 rfl (tc_Reader_advance (d := (d + 15)) (x9 := x9) (o0 := o0) t40 I35.start) rfl (Nat.le_of_ble_eq_true rfl) (Nat.le_of_ble_eq_true rfl) (Nat.le_of_ble_eq_true rfl) (hst := rfl) (fun b76r M77 n78 b76 => ?_)
              obtain ⟨T79, J80, rfl⟩ := b76
              have I81 := I35.call J80 (tm_sub (by decide)) (Or.inl rfl)
              have t83 := J80.up t40
              have q84 := J80.keep t40 (by decide) q41
              refine mv_aload_n d_Reader_sum_55 rfl rfl ?_
              obtain ⟨_, b91, -⟩ := I81.1 _ _ t83
              refine mv_callV (kc' := 0) (ks' := 0) (As := []) (st9 := [.ref o0]) d_Reader_sum_56 lV_Reader_218 b91 rfl (tc_Reader_product_q4 (d := d) (x9 := x9) (o0 := o0) t83 (p := p) q84 (by omega) I81.start) rfl (Nat.le_of_ble_eq_true rfl) (Nat.le_of_ble_eq_true rfl) (Nat.le_of_ble_eq_true rfl) (hst := rfl) (fun b85r M86 n87 b85 => ?_)
              obtain ⟨T88, J89, v92, rfl, b93, b94, o95⟩ := b85
              have I90 := I81.call J89 (tm_sub (by decide)) (Or.inl rfl)
              have t96 := J89.up t83
              have := mz_hi v92
              refine mv_if_neZ (tgt := 64) (a := v92.toInt) d_Reader_sum_59 (by decide) rfl (fun b97 => ?_) (fun b97 => ?_)
              · have q98 := o95 (by omega)
                refine mv_aload_n d_Reader_sum_64 rfl rfl ?_
                refine mv_iload_n d_Reader_sum_65 rfl rfl ?_
                refine mv_iconst (v := 0) d_Reader_sum_66 (by decide) ?_
                obtain ⟨_, b105, -⟩ := I90.1 _ _ t96
                refine mv_callV (kc' := 0) (ks' := 0) (As := [.int 2, .int 0]) (st9 := [.int 0, .int 2, .ref o0]) d_Reader_sum_67 lV_Reader_203 b105 rfl (tc_Reader_emit (d := (d + 15)) (x9 := x9) (o0 := o0) (x1 := 2) (x2 := 0) t96 I90.start) rfl (Nat.le_of_ble_eq_true rfl) (Nat.le_of_ble_eq_true rfl) (Nat.le_of_ble_eq_true rfl) (hst := rfl) (fun b99r M100 n101 b99 => ?_)
                obtain ⟨T102, J103, rfl⟩ := b99
                have I104 := I90.call J103 (tm_sub (by decide)) (Or.inl rfl)
                have t106 := J103.up t96
                have q107 := J103.keep t96 (by decide) q98
                refine mv_iinc (v := (i1_15 + 1)) (lv' := [(1, .int (i1_15 + 1)), (2, .int 2), (0, .ref o0)]) d_Reader_sum_70 rfl rfl (by decide) rfl ?_
                refine mv_goto (tgt := 11) d_Reader_sum_73 (by decide) ?_
                refine mv_locals (lv' := [(1, .int (i1_15 + 1)), (0, .ref o0)]) (by intro q hq; simp only [List.mem_cons, List.not_mem_nil, or_false] at hq; rcases hq with rfl | rfl <;> rfl) ?_
                have b108 : (i1_15 + 1).toInt = i1_15.toInt + 1 := mz_addn 1 1 (by decide) (by have := mz_lo i1_15; omega) (by have := mz_hi i1_15; omega)
                exact (ih15 (i1_15 + 1) T102 M100 n101 I104 t106 (by first | omega | decide) q107 (by omega))
              · refine mv_iconst (v := 0) d_Reader_sum_62 (by decide) ?_
                exact mv_iret d_Reader_sum_63 rfl (by decide) ⟨_, I90, _, rfl, by decide, by decide, fun h => absurd h (by decide)⟩
          · refine mv_aload_n d_Reader_sum_27 rfl rfl ?_
            refine mv_bipush (v := 45) d_Reader_sum_28 (by decide) ?_
            obtain ⟨_, b115, -⟩ := I22.1 _ _ t27
            refine mv_callV (kc' := 0) (ks' := 0) (As := [.int 45]) (st9 := [.int 45, .ref o0]) d_Reader_sum_30 lV_Reader_209 b115 rfl (tc_Reader_isSign (d := (d + 15)) (x9 := x9) (o0 := o0) (x1 := 45) t27 I22.start) rfl (Nat.le_of_ble_eq_true rfl) (Nat.le_of_ble_eq_true rfl) (Nat.le_of_ble_eq_true rfl) (hst := rfl) (fun b109r M110 n111 b109 => ?_)
            obtain ⟨T112, J113, v116, rfl, b117, b118⟩ := b109
            have I114 := I22.call J113 (tm_sub (by decide)) (Or.inl rfl)
            have t119 := J113.up t27
            have q120 := J113.keep t27 (by decide) q28
            have := mz_hi v116
            refine mv_if_eqZ (tgt := 76) (a := v116.toInt) d_Reader_sum_33 (by decide) rfl (fun b121 => ?_) (fun b121 => ?_)
            · refine mv_iconst (v := 1) d_Reader_sum_76 (by decide) ?_
              exact mv_iret d_Reader_sum_77 rfl (by decide) ⟨_, I114, _, rfl, by decide, by decide, fun _ => q120⟩
            · refine mv_aload_n d_Reader_sum_36 rfl rfl ?_
              refine mv_bipush (v := 43) d_Reader_sum_37 (by decide) ?_
              obtain ⟨_, b128, -⟩ := I114.1 _ _ t119
              refine mv_callV (kc' := 0) (ks' := 0) (As := [.int 43]) (st9 := [.int 43, .ref o0]) d_Reader_sum_39 lV_Reader_209 b128 rfl (tc_Reader_isSign (d := (d + 15)) (x9 := x9) (o0 := o0) (x1 := 43) t119 I114.start) rfl (Nat.le_of_ble_eq_true rfl) (Nat.le_of_ble_eq_true rfl) (Nat.le_of_ble_eq_true rfl) (hst := rfl) (fun b122r M123 n124 b122 => ?_)
              obtain ⟨T125, J126, v129, rfl, b130, b131⟩ := b122
              have I127 := I114.call J126 (tm_sub (by decide)) (Or.inl rfl)
              have t132 := J126.up t119
              have q133 := J126.keep t119 (by decide) q120
              have := mz_hi v129
              refine mv_if_eqZ (tgt := 49) (a := v129.toInt) d_Reader_sum_42 (by decide) rfl (fun b134 => ?_) (fun b134 => ?_)
              · refine mv_iconst (v := 3) d_Reader_sum_49 (by decide) ?_
                refine mv_istore_n (lv' := [(2, .int 3), (1, .int i1_15), (0, .ref o0)]) d_Reader_sum_50 rfl (by decide) rfl ?_
                refine mv_aload_n d_Reader_sum_51 rfl rfl ?_
                obtain ⟨_, b141, -⟩ := I127.1 _ _ t132
                refine mv_callV (kc' := 0) (ks' := 0) (As := []) (st9 := [.ref o0]) d_Reader_sum_52 lV_Reader_82 b141 rfl (tc_Reader_advance (d := (d + 15)) (x9 := x9) (o0 := o0) t132 I127.start) rfl (Nat.le_of_ble_eq_true rfl) (Nat.le_of_ble_eq_true rfl) (Nat.le_of_ble_eq_true rfl) (hst := rfl) (fun b135r M136 n137 b135 => ?_)
                obtain ⟨T138, J139, rfl⟩ := b135
                have I140 := I127.call J139 (tm_sub (by decide)) (Or.inl rfl)
                have t142 := J139.up t132
                have q143 := J139.keep t132 (by decide) q133
                refine mv_aload_n d_Reader_sum_55 rfl rfl ?_
                obtain ⟨_, b150, -⟩ := I140.1 _ _ t142
                refine mv_callV (kc' := 0) (ks' := 0) (As := []) (st9 := [.ref o0]) d_Reader_sum_56 lV_Reader_218 b150 rfl (tc_Reader_product_q4 (d := d) (x9 := x9) (o0 := o0) t142 (p := p) q143 (by omega) I140.start) rfl (Nat.le_of_ble_eq_true rfl) (Nat.le_of_ble_eq_true rfl) (Nat.le_of_ble_eq_true rfl) (hst := rfl) (fun b144r M145 n146 b144 => ?_)
                obtain ⟨T147, J148, v151, rfl, b152, b153, o154⟩ := b144
                have I149 := I140.call J148 (tm_sub (by decide)) (Or.inl rfl)
                have t155 := J148.up t142
                have := mz_hi v151
                refine mv_if_neZ (tgt := 64) (a := v151.toInt) d_Reader_sum_59 (by decide) rfl (fun b156 => ?_) (fun b156 => ?_)
                · have q157 := o154 (by omega)
                  refine mv_aload_n d_Reader_sum_64 rfl rfl ?_
                  refine mv_iload_n d_Reader_sum_65 rfl rfl ?_
                  refine mv_iconst (v := 0) d_Reader_sum_66 (by decide) ?_
                  obtain ⟨_, b164, -⟩ := I149.1 _ _ t155
                  refine mv_callV (kc' := 0) (ks' := 0) (As := [.int 3, .int 0]) (st9 := [.int 0, .int 3, .ref o0]) d_Reader_sum_67 lV_Reader_203 b164 rfl (tc_Reader_emit (d := (d + 15)) (x9 := x9) (o0 := o0) (x1 := 3) (x2 := 0) t155 I149.start) rfl (Nat.le_of_ble_eq_true rfl) (Nat.le_of_ble_eq_true rfl) (Nat.le_of_ble_eq_true rfl) (hst := rfl) (fun b158r M159 n160 b158 => ?_)
                  obtain ⟨T161, J162, rfl⟩ := b158
                  have I163 := I149.call J162 (tm_sub (by decide)) (Or.inl rfl)
                  have t165 := J162.up t155
                  have q166 := J162.keep t155 (by decide) q157
                  refine mv_iinc (v := (i1_15 + 1)) (lv' := [(1, .int (i1_15 + 1)), (2, .int 3), (0, .ref o0)]) d_Reader_sum_70 rfl rfl (by decide) rfl ?_
                  refine mv_goto (tgt := 11) d_Reader_sum_73 (by decide) ?_
                  refine mv_locals (lv' := [(1, .int (i1_15 + 1)), (0, .ref o0)]) (by intro q hq; simp only [List.mem_cons, List.not_mem_nil, or_false] at hq; rcases hq with rfl | rfl <;> rfl) ?_
                  have b167 : (i1_15 + 1).toInt = i1_15.toInt + 1 := mz_addn 1 1 (by decide) (by have := mz_lo i1_15; omega) (by have := mz_hi i1_15; omega)
                  exact (ih15 (i1_15 + 1) T161 M159 n160 I163 t165 (by first | omega | decide) q166 (by omega))
                · refine mv_iconst (v := 0) d_Reader_sum_62 (by decide) ?_
                  exact mv_iret d_Reader_sum_63 rfl (by decide) ⟨_, I149, _, rfl, by decide, by decide, fun h => absurd h (by decide)⟩
              · refine mv_iconst (v := 2) d_Reader_sum_45 (by decide) ?_
                refine mv_goto (tgt := 50) d_Reader_sum_46 (by decide) ?_
                refine mv_istore_n (lv' := [(2, .int 2), (1, .int i1_15), (0, .ref o0)]) d_Reader_sum_50 rfl (by decide) rfl ?_
                refine mv_aload_n d_Reader_sum_51 rfl rfl ?_
                obtain ⟨_, b174, -⟩ := I127.1 _ _ t132
                refine mv_callV (kc' := 0) (ks' := 0) (As := []) (st9 := [.ref o0]) d_Reader_sum_52 lV_Reader_82 b174 rfl (tc_Reader_advance (d := (d + 15)) (x9 := x9) (o0 := o0) t132 I127.start) rfl (Nat.le_of_ble_eq_true rfl) (Nat.le_of_ble_eq_true rfl) (Nat.le_of_ble_eq_true rfl) (hst := rfl) (fun b168r M169 n170 b168 => ?_)
                obtain ⟨T171, J172, rfl⟩ := b168
                have I173 := I127.call J172 (tm_sub (by decide)) (Or.inl rfl)
                have t175 := J172.up t132
                have q176 := J172.keep t132 (by decide) q133
                refine mv_aload_n d_Reader_sum_55 rfl rfl ?_
                obtain ⟨_, b183, -⟩ := I173.1 _ _ t175
                refine mv_callV (kc' := 0) (ks' := 0) (As := []) (st9 := [.ref o0]) d_Reader_sum_56 lV_Reader_218 b183 rfl (tc_Reader_product_q4 (d := d) (x9 := x9) (o0 := o0) t175 (p := p) q176 (by omega) I173.start) rfl (Nat.le_of_ble_eq_true rfl) (Nat.le_of_ble_eq_true rfl) (Nat.le_of_ble_eq_true rfl) (hst := rfl) (fun b177r M178 n179 b177 => ?_)
                obtain ⟨T180, J181, v184, rfl, b185, b186, o187⟩ := b177
                have I182 := I173.call J181 (tm_sub (by decide)) (Or.inl rfl)
                have t188 := J181.up t175
                have := mz_hi v184
                refine mv_if_neZ (tgt := 64) (a := v184.toInt) d_Reader_sum_59 (by decide) rfl (fun b189 => ?_) (fun b189 => ?_)
                · have q190 := o187 (by omega)
                  refine mv_aload_n d_Reader_sum_64 rfl rfl ?_
                  refine mv_iload_n d_Reader_sum_65 rfl rfl ?_
                  refine mv_iconst (v := 0) d_Reader_sum_66 (by decide) ?_
                  obtain ⟨_, b197, -⟩ := I182.1 _ _ t188
                  refine mv_callV (kc' := 0) (ks' := 0) (As := [.int 2, .int 0]) (st9 := [.int 0, .int 2, .ref o0]) d_Reader_sum_67 lV_Reader_203 b197 rfl (tc_Reader_emit (d := (d + 15)) (x9 := x9) (o0 := o0) (x1 := 2) (x2 := 0) t188 I182.start) rfl (Nat.le_of_ble_eq_true rfl) (Nat.le_of_ble_eq_true rfl) (Nat.le_of_ble_eq_true rfl) (hst := rfl) (fun b191r M192 n193 b191 => ?_)
                  obtain ⟨T194, J195, rfl⟩ := b191
                  have I196 := I182.call J195 (tm_sub (by decide)) (Or.inl rfl)
                  have t198 := J195.up t188
                  have q199 := J195.keep t188 (by decide) q190
                  refine mv_iinc (v := (i1_15 + 1)) (lv' := [(1, .int (i1_15 + 1)), (2, .int 2), (0, .ref o0)]) d_Reader_sum_70 rfl rfl (by decide) rfl ?_
                  refine mv_goto (tgt := 11) d_Reader_sum_73 (by decide) ?_
                  refine mv_locals (lv' := [(1, .int (i1_15 + 1)), (0, .ref o0)]) (by intro q hq; simp only [List.mem_cons, List.not_mem_nil, or_false] at hq; rcases hq with rfl | rfl <;> rfl) ?_
                  have b200 : (i1_15 + 1).toInt = i1_15.toInt + 1 := mz_addn 1 1 (by decide) (by have := mz_lo i1_15; omega) (by have := mz_hi i1_15; omega)
                  exact (ih15 (i1_15 + 1) T194 M192 n193 I196 t198 (by first | omega | decide) q199 (by omega))
                · refine mv_iconst (v := 0) d_Reader_sum_62 (by decide) ?_
                  exact mv_iret d_Reader_sum_63 rfl (by decide) ⟨_, I182, _, rfl, by decide, by decide, fun h => absurd h (by decide)⟩
    exact mv_less (Nat.zero_le _) (Nat.zero_le _) (L11_15 4294967296 0 T4 M2 n3 I6 t12 (by first | omega | decide) q14 (by show (2147483647 - (0 : Int) : Int) < _; decide))
  · refine mv_iconst (v := 0) d_Reader_sum_7 (by decide) ?_
    exact mv_iret d_Reader_sum_8 rfl (by decide) ⟨_, I6, _, rfl, by decide, by decide, fun h => absurd h (by decide)⟩
theorem d_Reader_term_90 : decode kY_Reader_term.2.1 90 = .ok (.ifCond .ne 5, 3) := by decide +kernel
theorem d_Reader_term_95 : decode kY_Reader_term.2.1 95 = .ok (.aload_n 0, 1) := by decide +kernel
theorem d_Reader_term_96 : decode kY_Reader_term.2.1 96 = .ok (.invokevirtual 215, 3) := by decide +kernel
abbrev kY_Reader_comparisonHere : mj_Y := (⟨"TrustDesk$Reader", "comparisonHere", "()I"⟩, prog_10_method_18_code, 1, (Option.some Jvm.ClassFile.FieldType.int))
theorem d_Reader_comparisonHere_0 : decode kY_Reader_comparisonHere.2.1 0 = .ok (.aload_n 0, 1) := by decide +kernel
theorem d_Reader_comparisonHere_1 : decode kY_Reader_comparisonHere.2.1 1 = .ok (.bipush 60, 2) := by decide +kernel
theorem d_Reader_comparisonHere_3 : decode kY_Reader_comparisonHere.2.1 3 = .ok (.invokevirtual 209, 3) := by decide +kernel
theorem d_Reader_comparisonHere_6 : decode kY_Reader_comparisonHere.2.1 6 = .ok (.ifCond .eq 5, 3) := by decide +kernel
theorem d_Reader_comparisonHere_11 : decode kY_Reader_comparisonHere.2.1 11 = .ok (.aload_n 0, 1) := by decide +kernel
theorem d_Reader_comparisonHere_12 : decode kY_Reader_comparisonHere.2.1 12 = .ok (.bipush 62, 2) := by decide +kernel
theorem d_Reader_comparisonHere_14 : decode kY_Reader_comparisonHere.2.1 14 = .ok (.invokevirtual 209, 3) := by decide +kernel
theorem d_Reader_comparisonHere_17 : decode kY_Reader_comparisonHere.2.1 17 = .ok (.ifCond .eq 6, 3) := by decide +kernel
theorem d_Reader_comparisonHere_23 : decode kY_Reader_comparisonHere.2.1 23 = .ok (.aload_n 0, 1) := by decide +kernel
theorem d_Reader_comparisonHere_24 : decode kY_Reader_comparisonHere.2.1 24 = .ok (.bipush 61, 2) := by decide +kernel
theorem d_Reader_comparisonHere_26 : decode kY_Reader_comparisonHere.2.1 26 = .ok (.invokevirtual 209, 3) := by decide +kernel
theorem d_Reader_comparisonHere_29 : decode kY_Reader_comparisonHere.2.1 29 = .ok (.ifCond .eq 8, 3) := by decide +kernel
theorem d_Reader_comparisonHere_37 : decode kY_Reader_comparisonHere.2.1 37 = .ok (.iconst (-1), 1) := by decide +kernel
theorem d_Reader_comparisonHere_38 : decode kY_Reader_comparisonHere.2.1 38 = .ok (.ireturn, 1) := by decide +kernel
theorem d_Reader_comparisonHere_32 : decode kY_Reader_comparisonHere.2.1 32 = .ok (.bipush 7, 2) := by decide +kernel
theorem d_Reader_comparisonHere_34 : decode kY_Reader_comparisonHere.2.1 34 = .ok (.goto 4, 3) := by decide +kernel
theorem d_Reader_comparisonHere_20 : decode kY_Reader_comparisonHere.2.1 20 = .ok (.bipush 6, 2) := by decide +kernel
theorem d_Reader_comparisonHere_22 : decode kY_Reader_comparisonHere.2.1 22 = .ok (.ireturn, 1) := by decide +kernel
theorem d_Reader_comparisonHere_9 : decode kY_Reader_comparisonHere.2.1 9 = .ok (.iconst 5, 1) := by decide +kernel
theorem d_Reader_comparisonHere_10 : decode kY_Reader_comparisonHere.2.1 10 = .ok (.ireturn, 1) := by decide +kernel
def w_Reader_comparisonHere : List Nat := []
theorem tc_Reader_comparisonHere {g : mj_G} {l : Launch} {d : Nat} {T0 : tm_H} {M0 : mj_M} {n0 x9 : Nat} {o0 : Nat} (h_o0 : T0 o0 = some (0, 9, 0)) (I0 : tm_I tm_FT (tm_in w_Reader_comparisonHere) x9 T0 M0 n0 T0 M0 n0) : mj_Met g l kY_Reader_comparisonHere (d + 1) [.ref o0] M0 n0 0 0 (tm_Q tm_FT (tm_in w_Reader_comparisonHere) x9 T0 M0 n0 (fun r _ _ => ∃ v : Int32, r = some (.int v))) := by
  refine mj_enter (by decide) (Nat.le_of_ble_eq_true rfl) ?_
  refine mv_aload_n d_Reader_comparisonHere_0 rfl rfl ?_
  refine mv_bipush (v := 60) d_Reader_comparisonHere_1 (by decide) ?_
  obtain ⟨_, b7, -⟩ := I0.1 _ _ h_o0
  refine mv_callV (kc' := 0) (ks' := 0) (As := [.int 60]) (st9 := [.int 60, .ref o0]) d_Reader_comparisonHere_3 lV_Reader_209 b7 rfl (tc_Reader_isSign (d := d) (x9 := x9) (o0 := o0) (x1 := 60) h_o0 I0.start) rfl (Nat.le_of_ble_eq_true rfl) (Nat.le_of_ble_eq_true rfl) (Nat.le_of_ble_eq_true rfl) (hst := rfl) (fun b1r M2 n3 b1 => ?_)
  obtain ⟨T4, J5, v8, rfl, b9, b10⟩ := b1
  have I6 := I0.call J5 (tm_sub (by decide)) (Or.inl rfl)
  have t11 := J5.up h_o0
  have := mz_hi v8
  refine mv_if_eqZ (tgt := 11) (a := v8.toInt) d_Reader_comparisonHere_6 (by decide) rfl (fun b12 => ?_) (fun b12 => ?_)
  · refine mv_aload_n d_Reader_comparisonHere_11 rfl rfl ?_
    refine mv_bipush (v := 62) d_Reader_comparisonHere_12 (by decide) ?_
    obtain ⟨_, b19, -⟩ := I6.1 _ _ t11
    refine mv_callV (kc' := 0) (ks' := 0) (As := [.int 62]) (st9 := [.int 62, .ref o0]) d_Reader_comparisonHere_14 lV_Reader_209 b19 rfl (tc_Reader_isSign (d := d) (x9 := x9) (o0 := o0) (x1 := 62) t11 I6.start) rfl (Nat.le_of_ble_eq_true rfl) (Nat.le_of_ble_eq_true rfl) (Nat.le_of_ble_eq_true rfl) (hst := rfl) (fun b13r M14 n15 b13 => ?_)
    obtain ⟨T16, J17, v20, rfl, b21, b22⟩ := b13
    have I18 := I6.call J17 (tm_sub (by decide)) (Or.inl rfl)
    have t23 := J17.up t11
    have := mz_hi v20
    refine mv_if_eqZ (tgt := 23) (a := v20.toInt) d_Reader_comparisonHere_17 (by decide) rfl (fun b24 => ?_) (fun b24 => ?_)
    · refine mv_aload_n d_Reader_comparisonHere_23 rfl rfl ?_
      refine mv_bipush (v := 61) d_Reader_comparisonHere_24 (by decide) ?_
      obtain ⟨_, b31, -⟩ := I18.1 _ _ t23
      refine mv_callV (kc' := 0) (ks' := 0) (As := [.int 61]) (st9 := [.int 61, .ref o0]) d_Reader_comparisonHere_26 lV_Reader_209 b31 rfl (tc_Reader_isSign (d := d) (x9 := x9) (o0 := o0) (x1 := 61) t23 I18.start) rfl (Nat.le_of_ble_eq_true rfl) (Nat.le_of_ble_eq_true rfl) (Nat.le_of_ble_eq_true rfl) (hst := rfl) (fun b25r M26 n27 b25 => ?_)
      obtain ⟨T28, J29, v32, rfl, b33, b34⟩ := b25
      have I30 := I18.call J29 (tm_sub (by decide)) (Or.inl rfl)
      have t35 := J29.up t23
      have := mz_hi v32
      refine mv_if_eqZ (tgt := 37) (a := v32.toInt) d_Reader_comparisonHere_29 (by decide) rfl (fun b36 => ?_) (fun b36 => ?_)
      · refine mv_iconst (v := (-1)) d_Reader_comparisonHere_37 (by decide) ?_
        exact mv_iret d_Reader_comparisonHere_38 rfl (by first | rfl | decide) ⟨_, I30, _, rfl⟩
      · refine mv_bipush (v := 7) d_Reader_comparisonHere_32 (by decide) ?_
        refine mv_goto (tgt := 38) d_Reader_comparisonHere_34 (by decide) ?_
        exact mv_iret d_Reader_comparisonHere_38 rfl (by first | rfl | decide) ⟨_, I30, _, rfl⟩
    · refine mv_bipush (v := 6) d_Reader_comparisonHere_20 (by decide) ?_
      exact mv_iret d_Reader_comparisonHere_22 rfl (by first | rfl | decide) ⟨_, I18, _, rfl⟩
  · refine mv_iconst (v := 5) d_Reader_comparisonHere_9 (by decide) ?_
    exact mv_iret d_Reader_comparisonHere_10 rfl (by first | rfl | decide) ⟨_, I6, _, rfl⟩
theorem lV_Reader_215 : mj_lV "TrustDesk$Reader" 215 kY_Reader_comparisonHere 0 := ⟨⟨(mj_in1 (List.mem_of_getElem? (i := 519) (by decide +kernel)) rfl), (mj_in1 (List.mem_of_getElem? (i := 3) (by decide +kernel)) rfl), (mj_in1 (List.mem_of_getElem? (i := 522) (by decide +kernel)) rfl), by decide, rfl, by decide⟩, (mj_in1 (List.mem_of_getElem? (i := 521) (by decide +kernel)) rfl), (mj_in (List.mem_append_left _ (List.mem_of_getElem? (i := 28) (by decide +kernel))) rfl)⟩
theorem d_Reader_term_99 : decode kY_Reader_term.2.1 99 = .ok (.istore_n 2, 1) := by decide +kernel
theorem d_Reader_term_100 : decode kY_Reader_term.2.1 100 = .ok (.iload_n 2, 1) := by decide +kernel
theorem d_Reader_term_101 : decode kY_Reader_term.2.1 101 = .ok (.iconst (-1), 1) := by decide +kernel
theorem d_Reader_term_102 : decode kY_Reader_term.2.1 102 = .ok (.if_icmp .ne 9, 3) := by decide +kernel
theorem d_Reader_term_111 : decode kY_Reader_term.2.1 111 = .ok (.aload_n 0, 1) := by decide +kernel
theorem d_Reader_term_112 : decode kY_Reader_term.2.1 112 = .ok (.invokevirtual 82, 3) := by decide +kernel
theorem d_Reader_term_115 : decode kY_Reader_term.2.1 115 = .ok (.aload_n 0, 1) := by decide +kernel
theorem d_Reader_term_116 : decode kY_Reader_term.2.1 116 = .ok (.invokevirtual 186, 3) := by decide +kernel
theorem d_Reader_term_119 : decode kY_Reader_term.2.1 119 = .ok (.ifCond .ne 5, 3) := by decide +kernel
theorem d_Reader_term_124 : decode kY_Reader_term.2.1 124 = .ok (.aload_n 0, 1) := by decide +kernel
theorem d_Reader_term_125 : decode kY_Reader_term.2.1 125 = .ok (.iload_n 2, 1) := by decide +kernel
theorem d_Reader_term_126 : decode kY_Reader_term.2.1 126 = .ok (.iconst 0, 1) := by decide +kernel
theorem d_Reader_term_127 : decode kY_Reader_term.2.1 127 = .ok (.invokevirtual 203, 3) := by decide +kernel
theorem d_Reader_term_130 : decode kY_Reader_term.2.1 130 = .ok (.iload_n 1, 1) := by decide +kernel
theorem d_Reader_term_131 : decode kY_Reader_term.2.1 131 = .ok (.ifCond .eq 10, 3) := by decide +kernel
theorem d_Reader_term_141 : decode kY_Reader_term.2.1 141 = .ok (.iconst 1, 1) := by decide +kernel
theorem d_Reader_term_142 : decode kY_Reader_term.2.1 142 = .ok (.ireturn, 1) := by decide +kernel
theorem d_Reader_term_134 : decode kY_Reader_term.2.1 134 = .ok (.aload_n 0, 1) := by decide +kernel
theorem d_Reader_term_135 : decode kY_Reader_term.2.1 135 = .ok (.bipush 8, 2) := by decide +kernel
theorem d_Reader_term_137 : decode kY_Reader_term.2.1 137 = .ok (.iconst 0, 1) := by decide +kernel
theorem d_Reader_term_138 : decode kY_Reader_term.2.1 138 = .ok (.invokevirtual 203, 3) := by decide +kernel
theorem d_Reader_term_122 : decode kY_Reader_term.2.1 122 = .ok (.iconst 0, 1) := by decide +kernel
theorem d_Reader_term_123 : decode kY_Reader_term.2.1 123 = .ok (.ireturn, 1) := by decide +kernel
theorem d_Reader_term_105 : decode kY_Reader_term.2.1 105 = .ok (.aload_n 0, 1) := by decide +kernel
theorem d_Reader_term_106 : decode kY_Reader_term.2.1 106 = .ok (.iconst 1, 1) := by decide +kernel
theorem d_Reader_term_107 : decode kY_Reader_term.2.1 107 = .ok (.invokevirtual 56, 3) := by decide +kernel
theorem d_Reader_term_110 : decode kY_Reader_term.2.1 110 = .ok (.ireturn, 1) := by decide +kernel
theorem d_Reader_term_93 : decode kY_Reader_term.2.1 93 = .ok (.iconst 0, 1) := by decide +kernel
theorem d_Reader_term_94 : decode kY_Reader_term.2.1 94 = .ok (.ireturn, 1) := by decide +kernel
theorem d_Reader_term_49 : decode kY_Reader_term.2.1 49 = .ok (.aload_n 0, 1) := by decide +kernel
theorem d_Reader_term_50 : decode kY_Reader_term.2.1 50 = .ok (.invokevirtual 212, 3) := by decide +kernel
theorem d_Reader_term_53 : decode kY_Reader_term.2.1 53 = .ok (.ifCond .eq 10, 3) := by decide +kernel
theorem d_Reader_term_63 : decode kY_Reader_term.2.1 63 = .ok (.iconst 0, 1) := by decide +kernel
theorem d_Reader_term_64 : decode kY_Reader_term.2.1 64 = .ok (.ireturn, 1) := by decide +kernel
theorem d_Reader_term_56 : decode kY_Reader_term.2.1 56 = .ok (.aload_n 0, 1) := by decide +kernel
theorem d_Reader_term_57 : decode kY_Reader_term.2.1 57 = .ok (.invokevirtual 124, 3) := by decide +kernel
theorem d_Reader_term_11 : decode kY_Reader_term.2.1 11 = .ok (.aload_n 0, 1) := by decide +kernel
theorem d_Reader_term_12 : decode kY_Reader_term.2.1 12 = .ok (.bipush 30, 2) := by decide +kernel
theorem d_Reader_term_14 : decode kY_Reader_term.2.1 14 = .ok (.invokevirtual 52, 3) := by decide +kernel
theorem d_Reader_term_17 : decode kY_Reader_term.2.1 17 = .ok (.ifCond .eq 23, 3) := by decide +kernel
theorem d_Reader_term_20 : decode kY_Reader_term.2.1 20 = .ok (.aload_n 0, 1) := by decide +kernel
theorem d_Reader_term_21 : decode kY_Reader_term.2.1 21 = .ok (.invokevirtual 82, 3) := by decide +kernel
theorem d_Reader_term_24 : decode kY_Reader_term.2.1 24 = .ok (.iload_n 1, 1) := by decide +kernel
theorem d_Reader_term_25 : decode kY_Reader_term.2.1 25 = .ok (.ifCond .ne 7, 3) := by decide +kernel
theorem d_Reader_term_32 : decode kY_Reader_term.2.1 32 = .ok (.iconst 0, 1) := by decide +kernel
theorem d_Reader_term_33 : decode kY_Reader_term.2.1 33 = .ok (.istore_n 1, 1) := by decide +kernel
theorem d_Reader_term_34 : decode kY_Reader_term.2.1 34 = .ok (.iinc 2 1, 3) := by decide +kernel
theorem d_Reader_term_37 : decode kY_Reader_term.2.1 37 = .ok (.goto (-33), 3) := by decide +kernel
theorem d_Reader_term_28 : decode kY_Reader_term.2.1 28 = .ok (.iconst 1, 1) := by decide +kernel
theorem d_Reader_term_29 : decode kY_Reader_term.2.1 29 = .ok (.goto 4, 3) := by decide +kernel
def w_Reader_term_q0 : List Nat := [901, 902, 909, 910, 911, 912, 913, 914, 916, 918, 967]
theorem tc_Reader_term_q0 {g : mj_G} {l : Launch} {d : Nat} {T0 : tm_H} {M0 : mj_M} {n0 x9 : Nat} {o0 : Nat} (h_o0 : T0 o0 = some (0, 9, 0)) {p : Int32} (hO : tm_at M0 o0 9 16 (.int p)) (hp : 4 ≤ p.toInt) (I0 : tm_I tm_FT (tm_in w_Reader_term_q0) x9 T0 M0 n0 T0 M0 n0) : mj_Met g l kY_Reader_term (d + 5) [.ref o0] M0 n0 0 0 (tm_Q tm_FT (tm_in w_Reader_term_q0) x9 T0 M0 n0 (fun r _ M => ∃ v : Int32, r = some (.int v) ∧ 0 ≤ v.toInt ∧ v.toInt ≤ 1 ∧ (v.toInt = 1 → tm_at M o0 9 16 (.int p)))) := by
  refine mj_enter (by decide) (Nat.le_of_ble_eq_true rfl) ?_
  refine mv_iconst (v := 0) d_Reader_term_0 (by decide) ?_
  refine mv_istore_n (lv' := [(1, .int 0), (0, .ref o0)]) d_Reader_term_1 rfl (by decide) rfl ?_
  refine mv_iconst (v := 0) d_Reader_term_2 (by decide) ?_
  refine mv_istore_n (lv' := [(2, .int 0), (1, .int 0), (0, .ref o0)]) d_Reader_term_3 rfl (by decide) rfl ?_
  have L4_1 : ∀ (k : Nat) (i2_1 : Int32) (i1_1 : Int32) (T_1 : tm_H) (M_1 : mj_M) (n_1 : Nat), tm_I tm_FT (tm_in w_Reader_term_q0) x9 T0 M0 n0 T_1 M_1 n_1 → T_1 o0 = some (0, 9, 0) → 0 ≤ i2_1.toInt → tm_at M_1 o0 9 16 (.int p) → 2147483647 - i2_1.toInt < (k : Int) → mj_V g l kY_Reader_term (d + 5) 4 [(2, .int i2_1), (1, .int i1_1), (0, .ref o0)] [] M_1 n_1 0 0 (tm_Q tm_FT (tm_in w_Reader_term_q0) x9 T0 M0 n0 (fun r _ M => ∃ v : Int32, r = some (.int v) ∧ 0 ≤ v.toInt ∧ v.toInt ≤ 1 ∧ (v.toInt = 1 → tm_at M o0 9 16 (.int p)))) := by
    intro k1
    induction k1 with
    | zero =>
      intro i2_1 i1_1 T_1 M_1 n_1 I_1 h_q0_1 iv0_1 kp0_1 hk1
      have := mz_hi i2_1
      omega
    | succ k1 ih1 =>
      intro i2_1 i1_1 T_1 M_1 n_1 I_1 h_q0_1 iv0_1 kp0_1 hk1
      refine mv_iload_n d_Reader_term_4 rfl rfl ?_
      refine mv_sipush (v := 400) d_Reader_term_5 (by decide) ?_
      have := mz_hi i2_1
      refine mv_icmp_geZ (tgt := 40) (a := i2_1.toInt) (b := 400) d_Reader_term_8 (by decide) rfl (by decide) (fun b2 => ?_) (fun b2 => ?_)
      · refine mv_aload_n d_Reader_term_40 rfl rfl ?_
        refine mv_bipush (v := 91) d_Reader_term_41 (by decide) ?_
        obtain ⟨_, b9, -⟩ := I_1.1 _ _ h_q0_1
        refine mv_callV (kc' := 0) (ks' := 0) (As := [.int 91]) (st9 := [.int 91, .ref o0]) d_Reader_term_43 lV_Reader_209 b9 rfl (tc_Reader_isSign (d := (d + 4)) (x9 := x9) (o0 := o0) (x1 := 91) h_q0_1 I_1.start) rfl (Nat.le_of_ble_eq_true rfl) (Nat.le_of_ble_eq_true rfl) (Nat.le_of_ble_eq_true rfl) (hst := rfl) (fun b3r M4 n5 b3 => ?_)
        obtain ⟨T6, J7, v10, rfl, b11, b12⟩ := b3
        have I8 := I_1.call J7 (tm_sub (by decide)) (Or.inl rfl)
        have t13 := J7.up h_q0_1
        have q14 := J7.keep h_q0_1 (by decide) kp0_1
        have := mz_hi v10
        refine mv_if_eqZ (tgt := 86) (a := v10.toInt) d_Reader_term_46 (by decide) rfl (fun b15 => ?_) (fun b15 => ?_)
        · refine mv_aload_n d_Reader_term_86 rfl rfl ?_
          obtain ⟨_, b22, -⟩ := I8.1 _ _ t13
          refine mv_callV (kc' := 0) (ks' := 0) (As := []) (st9 := [.ref o0]) d_Reader_term_87 lV_Reader_186 b22 rfl (tc_Reader_sum_q0 (d := d) (x9 := x9) (o0 := o0) t13 (p := p) q14 (by omega) I8.start) rfl (Nat.le_of_ble_eq_true rfl) (Nat.le_of_ble_eq_true rfl) (Nat.le_of_ble_eq_true rfl) (hst := rfl) (fun b16r M17 n18 b16 => ?_)
          obtain ⟨T19, J20, v23, rfl, b24, b25, o26⟩ := b16
          have I21 := I8.call J20 (tm_sub (by decide)) (Or.inl rfl)
          have t27 := J20.up t13
          have := mz_hi v23
          refine mv_if_neZ (tgt := 95) (a := v23.toInt) d_Reader_term_90 (by decide) rfl (fun b28 => ?_) (fun b28 => ?_)
          · have q29 := o26 (by omega)
            refine mv_aload_n d_Reader_term_95 rfl rfl ?_
            obtain ⟨_, b36, -⟩ := I21.1 _ _ t27
            refine mv_callV (kc' := 0) (ks' := 0) (As := []) (st9 := [.ref o0]) d_Reader_term_96 lV_Reader_215 b36 rfl (tc_Reader_comparisonHere (d := (d + 3)) (x9 := x9) (o0 := o0) t27 I21.start) rfl (Nat.le_of_ble_eq_true rfl) (Nat.le_of_ble_eq_true rfl) (Nat.le_of_ble_eq_true rfl) (hst := rfl) (fun b30r M31 n32 b30 => ?_)
            obtain ⟨T33, J34, v37, rfl⟩ := b30
            have I35 := I21.call J34 (tm_sub (by decide)) (Or.inl rfl)
            have t38 := J34.up t27
            have q39 := J34.keep t27 (by decide) q29
            refine mv_istore_n (lv' := [(2, .int v37), (1, .int i1_1), (0, .ref o0)]) d_Reader_term_99 rfl (by decide) rfl ?_
            refine mv_iload_n d_Reader_term_100 rfl rfl ?_
            refine mv_iconst (v := (-1)) d_Reader_term_101 (by decide) ?_
            have := mz_hi v37
            refine mv_icmp_neZ (tgt := 111) (a := v37.toInt) (b := (-1)) d_Reader_term_102 (by decide) rfl (by decide) (fun b40 => ?_) (fun b40 => ?_)
            · refine mv_aload_n d_Reader_term_111 rfl rfl ?_
              obtain ⟨_, b47, -⟩ := I35.1 _ _ t38
              refine mv_callV (kc' := 0) (ks' := 0) (As := []) (st9 := [.ref o0]) d_Reader_term_112 lV_Reader_82 b47 rfl (tc_Reader_advance (d := (d + 4)) (x9 := x9) (o0 := o0) t38 I35.start) rfl (Nat.le_of_ble_eq_true rfl) (Nat.le_of_ble_eq_true rfl) (Nat.le_of_ble_eq_true rfl) (hst := rfl) (fun b41r M42 n43 b41 => ?_)
              obtain ⟨T44, J45, rfl⟩ := b41
              have I46 := I35.call J45 (tm_sub (by decide)) (Or.inl rfl)
              have t48 := J45.up t38
              have q49 := J45.keep t38 (by decide) q39
              refine mv_aload_n d_Reader_term_115 rfl rfl ?_
              obtain ⟨_, b56, -⟩ := I46.1 _ _ t48
              refine mv_callV (kc' := 0) (ks' := 0) (As := []) (st9 := [.ref o0]) d_Reader_term_116 lV_Reader_186 b56 rfl (tc_Reader_sum_q0 (d := d) (x9 := x9) (o0 := o0) t48 (p := p) q49 (by omega) I46.start) rfl (Nat.le_of_ble_eq_true rfl) (Nat.le_of_ble_eq_true rfl) (Nat.le_of_ble_eq_true rfl) (hst := rfl) (fun b50r M51 n52 b50 => ?_)
              obtain ⟨T53, J54, v57, rfl, b58, b59, o60⟩ := b50
              have I55 := I46.call J54 (tm_sub (by decide)) (Or.inl rfl)
              have t61 := J54.up t48
              have := mz_hi v57
              refine mv_if_neZ (tgt := 124) (a := v57.toInt) d_Reader_term_119 (by decide) rfl (fun b62 => ?_) (fun b62 => ?_)
              · have q63 := o60 (by omega)
                refine mv_aload_n d_Reader_term_124 rfl rfl ?_
                refine mv_iload_n d_Reader_term_125 rfl rfl ?_
                refine mv_iconst (v := 0) d_Reader_term_126 (by decide) ?_
                obtain ⟨_, b70, -⟩ := I55.1 _ _ t61
                refine mv_callV (kc' := 0) (ks' := 0) (As := [.int v37, .int 0]) (st9 := [.int 0, .int v37, .ref o0]) d_Reader_term_127 lV_Reader_203 b70 rfl (tc_Reader_emit (d := (d + 4)) (x9 := x9) (o0 := o0) (x1 := v37) (x2 := 0) t61 I55.start) rfl (Nat.le_of_ble_eq_true rfl) (Nat.le_of_ble_eq_true rfl) (Nat.le_of_ble_eq_true rfl) (hst := rfl) (fun b64r M65 n66 b64 => ?_)
                obtain ⟨T67, J68, rfl⟩ := b64
                have I69 := I55.call J68 (tm_sub (by decide)) (Or.inl rfl)
                have t71 := J68.up t61
                have q72 := J68.keep t61 (by decide) q63
                refine mv_iload_n d_Reader_term_130 rfl rfl ?_
                have := mz_hi i1_1
                refine mv_if_eqZ (tgt := 141) (a := i1_1.toInt) d_Reader_term_131 (by decide) rfl (fun b73 => ?_) (fun b73 => ?_)
                · refine mv_iconst (v := 1) d_Reader_term_141 (by decide) ?_
                  exact mv_iret d_Reader_term_142 rfl (by decide) ⟨_, I69, _, rfl, by decide, by decide, fun _ => q72⟩
                · refine mv_aload_n d_Reader_term_134 rfl rfl ?_
                  refine mv_bipush (v := 8) d_Reader_term_135 (by decide) ?_
                  refine mv_iconst (v := 0) d_Reader_term_137 (by decide) ?_
                  obtain ⟨_, b80, -⟩ := I69.1 _ _ t71
                  refine mv_callV (kc' := 0) (ks' := 0) (As := [.int 8, .int 0]) (st9 := [.int 0, .int 8, .ref o0]) d_Reader_term_138 lV_Reader_203 b80 rfl (tc_Reader_emit (d := (d + 4)) (x9 := x9) (o0 := o0) (x1 := 8) (x2 := 0) t71 I69.start) rfl (Nat.le_of_ble_eq_true rfl) (Nat.le_of_ble_eq_true rfl) (Nat.le_of_ble_eq_true rfl) (hst := rfl) (fun b74r M75 n76 b74 => ?_)
                  obtain ⟨T77, J78, rfl⟩ := b74
                  have I79 := I69.call J78 (tm_sub (by decide)) (Or.inl rfl)
                  have t81 := J78.up t71
                  have q82 := J78.keep t71 (by decide) q72
                  refine mv_iconst (v := 1) d_Reader_term_141 (by decide) ?_
                  exact mv_iret d_Reader_term_142 rfl (by decide) ⟨_, I79, _, rfl, by decide, by decide, fun _ => q82⟩
              · refine mv_iconst (v := 0) d_Reader_term_122 (by decide) ?_
                exact mv_iret d_Reader_term_123 rfl (by decide) ⟨_, I55, _, rfl, by decide, by decide, fun h => absurd h (by decide)⟩
            · refine mv_aload_n d_Reader_term_105 rfl rfl ?_
              refine mv_iconst (v := 1) d_Reader_term_106 (by decide) ?_
              obtain ⟨_, b89, -⟩ := I35.1 _ _ t38
              refine mv_callV (kc' := 0) (ks' := 0) (As := [.int 1]) (st9 := [.int 1, .ref o0]) d_Reader_term_107 lV_Reader_56 b89 rfl (tc_Reader_refuse (d := (d + 4)) (x9 := x9) (o0 := o0) (x1 := 1) t38 I35.start) rfl (Nat.le_of_ble_eq_true rfl) (Nat.le_of_ble_eq_true rfl) (Nat.le_of_ble_eq_true rfl) (hst := rfl) (fun b83r M84 n85 b83 => ?_)
              obtain ⟨T86, J87, rfl⟩ := b83
              have I88 := I35.call J87 (tm_sub (by decide)) (Or.inl rfl)
              have t90 := J87.up t38
              have q91 := J87.keep t38 (by decide) q39
              exact mv_iret d_Reader_term_110 rfl (by decide) ⟨_, I88, _, rfl, by decide, by decide, fun h => absurd h (by decide)⟩
          · refine mv_iconst (v := 0) d_Reader_term_93 (by decide) ?_
            exact mv_iret d_Reader_term_94 rfl (by decide) ⟨_, I21, _, rfl, by decide, by decide, fun h => absurd h (by decide)⟩
        · refine mv_aload_n d_Reader_term_49 rfl rfl ?_
          obtain ⟨_, b98, -⟩ := I8.1 _ _ t13
          refine mv_callV (kc' := 0) (ks' := 0) (As := []) (st9 := [.ref o0]) d_Reader_term_50 lV_Reader_212 b98 rfl (tc_Reader_openBracket_q0 (d := (d + 3)) (x9 := x9) (o0 := o0) t13 (p := p) q14 (by omega) I8.start) rfl (Nat.le_of_ble_eq_true rfl) (Nat.le_of_ble_eq_true rfl) (Nat.le_of_ble_eq_true rfl) (hst := rfl) (fun b92r M93 n94 b92 => ?_)
          obtain ⟨T95, J96, v99, rfl, b100, b101, o102⟩ := b92
          have I97 := I8.call J96 (tm_sub (by decide)) (Or.inl rfl)
          have t103 := J96.up t13
          have := mz_hi v99
          refine mv_if_eqZ (tgt := 63) (a := v99.toInt) d_Reader_term_53 (by decide) rfl (fun b104 => ?_) (fun b104 => ?_)
          · refine mv_iconst (v := 0) d_Reader_term_63 (by decide) ?_
            exact mv_iret d_Reader_term_64 rfl (by decide) ⟨_, I97, _, rfl, by decide, by decide, fun h => absurd h (by decide)⟩
          · have := (o102 (by omega)).1
            exfalso
            omega
      · refine mv_aload_n d_Reader_term_11 rfl rfl ?_
        refine mv_bipush (v := 30) d_Reader_term_12 (by decide) ?_
        obtain ⟨_, b112, -⟩ := I_1.1 _ _ h_q0_1
        refine mv_callV (kc' := 0) (ks' := 0) (As := [.int 30]) (st9 := [.int 30, .ref o0]) d_Reader_term_14 lV_Reader_52 b112 rfl (tc_Reader_isWord (d := (d + 4)) (x9 := x9) (o0 := o0) (x1 := 30) h_q0_1 I_1.start) rfl (Nat.le_of_ble_eq_true rfl) (Nat.le_of_ble_eq_true rfl) (Nat.le_of_ble_eq_true rfl) (hst := rfl) (fun b106r M107 n108 b106 => ?_)
        obtain ⟨T109, J110, v113, rfl, b114, b115⟩ := b106
        have I111 := I_1.call J110 (tm_sub (by decide)) (Or.inl rfl)
        have t116 := J110.up h_q0_1
        have q117 := J110.keep h_q0_1 (by decide) kp0_1
        have := mz_hi v113
        refine mv_if_eqZ (tgt := 40) (a := v113.toInt) d_Reader_term_17 (by decide) rfl (fun b118 => ?_) (fun b118 => ?_)
        · refine mv_aload_n d_Reader_term_40 rfl rfl ?_
          refine mv_bipush (v := 91) d_Reader_term_41 (by decide) ?_
          obtain ⟨_, b125, -⟩ := I111.1 _ _ t116
          refine mv_callV (kc' := 0) (ks' := 0) (As := [.int 91]) (st9 := [.int 91, .ref o0]) d_Reader_term_43 lV_Reader_209 b125 rfl (tc_Reader_isSign (d := (d + 4)) (x9 := x9) (o0 := o0) (x1 := 91) t116 I111.start) rfl (Nat.le_of_ble_eq_true rfl) (Nat.le_of_ble_eq_true rfl) (Nat.le_of_ble_eq_true rfl) (hst := rfl) (fun b119r M120 n121 b119 => ?_)
          obtain ⟨T122, J123, v126, rfl, b127, b128⟩ := b119
          have I124 := I111.call J123 (tm_sub (by decide)) (Or.inl rfl)
          have t129 := J123.up t116
          have q130 := J123.keep t116 (by decide) q117
          have := mz_hi v126
          refine mv_if_eqZ (tgt := 86) (a := v126.toInt) d_Reader_term_46 (by decide) rfl (fun b131 => ?_) (fun b131 => ?_)
          · refine mv_aload_n d_Reader_term_86 rfl rfl ?_
            obtain ⟨_, b138, -⟩ := I124.1 _ _ t129
            refine mv_callV (kc' := 0) (ks' := 0) (As := []) (st9 := [.ref o0]) d_Reader_term_87 lV_Reader_186 b138 rfl (tc_Reader_sum_q0 (d := d) (x9 := x9) (o0 := o0) t129 (p := p) q130 (by omega) I124.start) rfl (Nat.le_of_ble_eq_true rfl) (Nat.le_of_ble_eq_true rfl) (Nat.le_of_ble_eq_true rfl) (hst := rfl) (fun b132r M133 n134 b132 => ?_)
            obtain ⟨T135, J136, v139, rfl, b140, b141, o142⟩ := b132
            have I137 := I124.call J136 (tm_sub (by decide)) (Or.inl rfl)
            have t143 := J136.up t129
            have := mz_hi v139
            refine mv_if_neZ (tgt := 95) (a := v139.toInt) d_Reader_term_90 (by decide) rfl (fun b144 => ?_) (fun b144 => ?_)
            · have q145 := o142 (by omega)
              refine mv_aload_n d_Reader_term_95 rfl rfl ?_
              obtain ⟨_, b152, -⟩ := I137.1 _ _ t143
              refine mv_callV (kc' := 0) (ks' := 0) (As := []) (st9 := [.ref o0]) d_Reader_term_96 lV_Reader_215 b152 rfl (tc_Reader_comparisonHere (d := (d + 3)) (x9 := x9) (o0 := o0) t143 I137.start) rfl (Nat.le_of_ble_eq_true rfl) (Nat.le_of_ble_eq_true rfl) (Nat.le_of_ble_eq_true rfl) (hst := rfl) (fun b146r M147 n148 b146 => ?_)
              obtain ⟨T149, J150, v153, rfl⟩ := b146
              have I151 := I137.call J150 (tm_sub (by decide)) (Or.inl rfl)
              have t154 := J150.up t143
              have q155 := J150.keep t143 (by decide) q145
              refine mv_istore_n (lv' := [(2, .int v153), (1, .int i1_1), (0, .ref o0)]) d_Reader_term_99 rfl (by decide) rfl ?_
              refine mv_iload_n d_Reader_term_100 rfl rfl ?_
              refine mv_iconst (v := (-1)) d_Reader_term_101 (by decide) ?_
              have := mz_hi v153
              refine mv_icmp_neZ (tgt := 111) (a := v153.toInt) (b := (-1)) d_Reader_term_102 (by decide) rfl (by decide) (fun b156 => ?_) (fun b156 => ?_)
              · refine mv_aload_n d_Reader_term_111 rfl rfl ?_
                obtain ⟨_, b163, -⟩ := I151.1 _ _ t154
                refine mv_callV (kc' := 0) (ks' := 0) (As := []) (st9 := [.ref o0]) d_Reader_term_112 lV_Reader_82 b163 rfl (tc_Reader_advance (d := (d + 4)) (x9 := x9) (o0 := o0) t154 I151.start) rfl (Nat.le_of_ble_eq_true rfl) (Nat.le_of_ble_eq_true rfl) (Nat.le_of_ble_eq_true rfl) (hst := rfl) (fun b157r M158 n159 b157 => ?_)
                obtain ⟨T160, J161, rfl⟩ := b157
                have I162 := I151.call J161 (tm_sub (by decide)) (Or.inl rfl)
                have t164 := J161.up t154
                have q165 := J161.keep t154 (by decide) q155
                refine mv_aload_n d_Reader_term_115 rfl rfl ?_
                obtain ⟨_, b172, -⟩ := I162.1 _ _ t164
                refine mv_callV (kc' := 0) (ks' := 0) (As := []) (st9 := [.ref o0]) d_Reader_term_116 lV_Reader_186 b172 rfl (tc_Reader_sum_q0 (d := d) (x9 := x9) (o0 := o0) t164 (p := p) q165 (by omega) I162.start) rfl (Nat.le_of_ble_eq_true rfl) (Nat.le_of_ble_eq_true rfl) (Nat.le_of_ble_eq_true rfl) (hst := rfl) (fun b166r M167 n168 b166 => ?_)
                obtain ⟨T169, J170, v173, rfl, b174, b175, o176⟩ := b166
                have I171 := I162.call J170 (tm_sub (by decide)) (Or.inl rfl)
                have t177 := J170.up t164
                have := mz_hi v173
                refine mv_if_neZ (tgt := 124) (a := v173.toInt) d_Reader_term_119 (by decide) rfl (fun b178 => ?_) (fun b178 => ?_)
                · have q179 := o176 (by omega)
                  refine mv_aload_n d_Reader_term_124 rfl rfl ?_
                  refine mv_iload_n d_Reader_term_125 rfl rfl ?_
                  refine mv_iconst (v := 0) d_Reader_term_126 (by decide) ?_
                  obtain ⟨_, b186, -⟩ := I171.1 _ _ t177
                  refine mv_callV (kc' := 0) (ks' := 0) (As := [.int v153, .int 0]) (st9 := [.int 0, .int v153, .ref o0]) d_Reader_term_127 lV_Reader_203 b186 rfl (tc_Reader_emit (d := (d + 4)) (x9 := x9) (o0 := o0) (x1 := v153) (x2 := 0) t177 I171.start) rfl (Nat.le_of_ble_eq_true rfl) (Nat.le_of_ble_eq_true rfl) (Nat.le_of_ble_eq_true rfl) (hst := rfl) (fun b180r M181 n182 b180 => ?_)
                  obtain ⟨T183, J184, rfl⟩ := b180
                  have I185 := I171.call J184 (tm_sub (by decide)) (Or.inl rfl)
                  have t187 := J184.up t177
                  have q188 := J184.keep t177 (by decide) q179
                  refine mv_iload_n d_Reader_term_130 rfl rfl ?_
                  have := mz_hi i1_1
                  refine mv_if_eqZ (tgt := 141) (a := i1_1.toInt) d_Reader_term_131 (by decide) rfl (fun b189 => ?_) (fun b189 => ?_)
                  · refine mv_iconst (v := 1) d_Reader_term_141 (by decide) ?_
                    exact mv_iret d_Reader_term_142 rfl (by decide) ⟨_, I185, _, rfl, by decide, by decide, fun _ => q188⟩
                  · refine mv_aload_n d_Reader_term_134 rfl rfl ?_
                    refine mv_bipush (v := 8) d_Reader_term_135 (by decide) ?_
                    refine mv_iconst (v := 0) d_Reader_term_137 (by decide) ?_
                    obtain ⟨_, b196, -⟩ := I185.1 _ _ t187
                    refine mv_callV (kc' := 0) (ks' := 0) (As := [.int 8, .int 0]) (st9 := [.int 0, .int 8, .ref o0]) d_Reader_term_138 lV_Reader_203 b196 rfl (tc_Reader_emit (d := (d + 4)) (x9 := x9) (o0 := o0) (x1 := 8) (x2 := 0) t187 I185.start) rfl (Nat.le_of_ble_eq_true rfl) (Nat.le_of_ble_eq_true rfl) (Nat.le_of_ble_eq_true rfl) (hst := rfl) (fun b190r M191 n192 b190 => ?_)
                    obtain ⟨T193, J194, rfl⟩ := b190
                    have I195 := I185.call J194 (tm_sub (by decide)) (Or.inl rfl)
                    have t197 := J194.up t187
                    have q198 := J194.keep t187 (by decide) q188
                    refine mv_iconst (v := 1) d_Reader_term_141 (by decide) ?_
                    exact mv_iret d_Reader_term_142 rfl (by decide) ⟨_, I195, _, rfl, by decide, by decide, fun _ => q198⟩
                · refine mv_iconst (v := 0) d_Reader_term_122 (by decide) ?_
                  exact mv_iret d_Reader_term_123 rfl (by decide) ⟨_, I171, _, rfl, by decide, by decide, fun h => absurd h (by decide)⟩
              · refine mv_aload_n d_Reader_term_105 rfl rfl ?_
                refine mv_iconst (v := 1) d_Reader_term_106 (by decide) ?_
                obtain ⟨_, b205, -⟩ := I151.1 _ _ t154
                refine mv_callV (kc' := 0) (ks' := 0) (As := [.int 1]) (st9 := [.int 1, .ref o0]) d_Reader_term_107 lV_Reader_56 b205 rfl (tc_Reader_refuse (d := (d + 4)) (x9 := x9) (o0 := o0) (x1 := 1) t154 I151.start) rfl (Nat.le_of_ble_eq_true rfl) (Nat.le_of_ble_eq_true rfl) (Nat.le_of_ble_eq_true rfl) (hst := rfl) (fun b199r M200 n201 b199 => ?_)
                obtain ⟨T202, J203, rfl⟩ := b199
                have I204 := I151.call J203 (tm_sub (by decide)) (Or.inl rfl)
                have t206 := J203.up t154
                have q207 := J203.keep t154 (by decide) q155
                exact mv_iret d_Reader_term_110 rfl (by decide) ⟨_, I204, _, rfl, by decide, by decide, fun h => absurd h (by decide)⟩
            · refine mv_iconst (v := 0) d_Reader_term_93 (by decide) ?_
              exact mv_iret d_Reader_term_94 rfl (by decide) ⟨_, I137, _, rfl, by decide, by decide, fun h => absurd h (by decide)⟩
          · refine mv_aload_n d_Reader_term_49 rfl rfl ?_
            obtain ⟨_, b214, -⟩ := I124.1 _ _ t129
            refine mv_callV (kc' := 0) (ks' := 0) (As := []) (st9 := [.ref o0]) d_Reader_term_50 lV_Reader_212 b214 rfl (tc_Reader_openBracket_q0 (d := (d + 3)) (x9 := x9) (o0 := o0) t129 (p := p) q130 (by omega) I124.start) rfl (Nat.le_of_ble_eq_true rfl) (Nat.le_of_ble_eq_true rfl) (Nat.le_of_ble_eq_true rfl) (hst := rfl) (fun b208r M209 n210 b208 => ?_)
            obtain ⟨T211, J212, v215, rfl, b216, b217, o218⟩ := b208
            have I213 := I124.call J212 (tm_sub (by decide)) (Or.inl rfl)
            have t219 := J212.up t129
            have := mz_hi v215
            refine mv_if_eqZ (tgt := 63) (a := v215.toInt) d_Reader_term_53 (by decide) rfl (fun b220 => ?_) (fun b220 => ?_)
            · refine mv_iconst (v := 0) d_Reader_term_63 (by decide) ?_
              exact mv_iret d_Reader_term_64 rfl (by decide) ⟨_, I213, _, rfl, by decide, by decide, fun h => absurd h (by decide)⟩
            · have := (o218 (by omega)).1
              exfalso
              omega
        · refine mv_aload_n d_Reader_term_20 rfl rfl ?_
          obtain ⟨_, b228, -⟩ := I111.1 _ _ t116
          refine mv_callV (kc' := 0) (ks' := 0) (As := []) (st9 := [.ref o0]) d_Reader_term_21 lV_Reader_82 b228 rfl (tc_Reader_advance (d := (d + 4)) (x9 := x9) (o0 := o0) t116 I111.start) rfl (Nat.le_of_ble_eq_true rfl) (Nat.le_of_ble_eq_true rfl) (Nat.le_of_ble_eq_true rfl) (hst := rfl) (fun b222r M223 n224 b222 => ?_)
          obtain ⟨T225, J226, rfl⟩ := b222
          have I227 := I111.call J226 (tm_sub (by decide)) (Or.inl rfl)
          have t229 := J226.up t116
          have q230 := J226.keep t116 (by decide) q117
          refine mv_iload_n d_Reader_term_24 rfl rfl ?_
          have := mz_hi i1_1
          refine mv_if_neZ (tgt := 32) (a := i1_1.toInt) d_Reader_term_25 (by decide) rfl (fun b231 => ?_) (fun b231 => ?_)
          · refine mv_iconst (v := 0) d_Reader_term_32 (by decide) ?_
            refine mv_istore_n (lv' := [(1, .int 0), (2, .int i2_1), (0, .ref o0)]) d_Reader_term_33 rfl (by decide) rfl ?_
            refine mv_iinc (v := (i2_1 + 1)) (lv' := [(2, .int (i2_1 + 1)), (1, .int 0), (0, .ref o0)]) d_Reader_term_34 rfl rfl (by decide) rfl ?_
            refine mv_goto (tgt := 4) d_Reader_term_37 (by decide) ?_
            have b232 : (i2_1 + 1).toInt = i2_1.toInt + 1 := mz_addn 1 1 (by decide) (by have := mz_lo i2_1; omega) (by have := mz_hi i2_1; omega)
            exact (ih1 (i2_1 + 1) 0 T225 M223 n224 I227 t229 (by first | omega | decide) q230 (by omega))
          · refine mv_iconst (v := 1) d_Reader_term_28 (by decide) ?_
            refine mv_goto (tgt := 33) d_Reader_term_29 (by decide) ?_
            refine mv_istore_n (lv' := [(1, .int 1), (2, .int i2_1), (0, .ref o0)]) d_Reader_term_33 rfl (by decide) rfl ?_
            refine mv_iinc (v := (i2_1 + 1)) (lv' := [(2, .int (i2_1 + 1)), (1, .int 1), (0, .ref o0)]) d_Reader_term_34 rfl rfl (by decide) rfl ?_
            refine mv_goto (tgt := 4) d_Reader_term_37 (by decide) ?_
            have b233 : (i2_1 + 1).toInt = i2_1.toInt + 1 := mz_addn 1 1 (by decide) (by have := mz_lo i2_1; omega) (by have := mz_hi i2_1; omega)
            exact (ih1 (i2_1 + 1) 1 T225 M223 n224 I227 t229 (by first | omega | decide) q230 (by omega))
  exact mv_less (Nat.zero_le _) (Nat.zero_le _) (L4_1 4294967296 0 0 T0 M0 n0 I0 h_o0 (by first | omega | decide) hO (by show (2147483647 - (0 : Int) : Int) < _; decide))
theorem lV_Reader_206 : mj_lV "TrustDesk$Reader" 206 kY_Reader_term 0 := ⟨⟨(mj_in1 (List.mem_of_getElem? (i := 483) (by decide +kernel)) rfl), (mj_in1 (List.mem_of_getElem? (i := 3) (by decide +kernel)) rfl), (mj_in1 (List.mem_of_getElem? (i := 486) (by decide +kernel)) rfl), by decide, rfl, by decide⟩, (mj_in1 (List.mem_of_getElem? (i := 485) (by decide +kernel)) rfl), (mj_in (List.mem_append_left _ (List.mem_of_getElem? (i := 19) (by decide +kernel))) rfl)⟩
theorem d_Reader_both_4 : decode kY_Reader_both.2.1 4 = .ok (.ifCond .ne 5, 3) := by decide +kernel
theorem d_Reader_both_9 : decode kY_Reader_both.2.1 9 = .ok (.iconst 0, 1) := by decide +kernel
theorem d_Reader_both_10 : decode kY_Reader_both.2.1 10 = .ok (.istore_n 1, 1) := by decide +kernel
theorem d_Reader_both_11 : decode kY_Reader_both.2.1 11 = .ok (.iload_n 1, 1) := by decide +kernel
theorem d_Reader_both_12 : decode kY_Reader_both.2.1 12 = .ok (.sipush 400, 3) := by decide +kernel
theorem d_Reader_both_15 : decode kY_Reader_both.2.1 15 = .ok (.if_icmp .ge 38, 3) := by decide +kernel
theorem d_Reader_both_53 : decode kY_Reader_both.2.1 53 = .ok (.iconst 1, 1) := by decide +kernel
theorem d_Reader_both_54 : decode kY_Reader_both.2.1 54 = .ok (.ireturn, 1) := by decide +kernel
theorem d_Reader_both_18 : decode kY_Reader_both.2.1 18 = .ok (.aload_n 0, 1) := by decide +kernel
theorem d_Reader_both_19 : decode kY_Reader_both.2.1 19 = .ok (.bipush 31, 2) := by decide +kernel
theorem d_Reader_both_21 : decode kY_Reader_both.2.1 21 = .ok (.invokevirtual 52, 3) := by decide +kernel
theorem d_Reader_both_24 : decode kY_Reader_both.2.1 24 = .ok (.ifCond .eq 29, 3) := by decide +kernel
theorem d_Reader_both_27 : decode kY_Reader_both.2.1 27 = .ok (.aload_n 0, 1) := by decide +kernel
theorem d_Reader_both_28 : decode kY_Reader_both.2.1 28 = .ok (.invokevirtual 82, 3) := by decide +kernel
theorem d_Reader_both_31 : decode kY_Reader_both.2.1 31 = .ok (.aload_n 0, 1) := by decide +kernel
theorem d_Reader_both_32 : decode kY_Reader_both.2.1 32 = .ok (.invokevirtual 206, 3) := by decide +kernel
theorem d_Reader_both_35 : decode kY_Reader_both.2.1 35 = .ok (.ifCond .ne 5, 3) := by decide +kernel
theorem d_Reader_both_40 : decode kY_Reader_both.2.1 40 = .ok (.aload_n 0, 1) := by decide +kernel
theorem d_Reader_both_41 : decode kY_Reader_both.2.1 41 = .ok (.bipush 9, 2) := by decide +kernel
theorem d_Reader_both_43 : decode kY_Reader_both.2.1 43 = .ok (.iconst 0, 1) := by decide +kernel
theorem d_Reader_both_44 : decode kY_Reader_both.2.1 44 = .ok (.invokevirtual 203, 3) := by decide +kernel
theorem d_Reader_both_47 : decode kY_Reader_both.2.1 47 = .ok (.iinc 1 1, 3) := by decide +kernel
theorem d_Reader_both_50 : decode kY_Reader_both.2.1 50 = .ok (.goto (-39), 3) := by decide +kernel
theorem d_Reader_both_38 : decode kY_Reader_both.2.1 38 = .ok (.iconst 0, 1) := by decide +kernel
theorem d_Reader_both_39 : decode kY_Reader_both.2.1 39 = .ok (.ireturn, 1) := by decide +kernel
theorem d_Reader_both_7 : decode kY_Reader_both.2.1 7 = .ok (.iconst 0, 1) := by decide +kernel
theorem d_Reader_both_8 : decode kY_Reader_both.2.1 8 = .ok (.ireturn, 1) := by decide +kernel
def w_Reader_both_q0 : List Nat := [901, 902, 909, 910, 911, 912, 913, 914, 916, 918, 967]
theorem tc_Reader_both_q0 {g : mj_G} {l : Launch} {d : Nat} {T0 : tm_H} {M0 : mj_M} {n0 x9 : Nat} {o0 : Nat} (h_o0 : T0 o0 = some (0, 9, 0)) {p : Int32} (hO : tm_at M0 o0 9 16 (.int p)) (hp : 4 ≤ p.toInt) (I0 : tm_I tm_FT (tm_in w_Reader_both_q0) x9 T0 M0 n0 T0 M0 n0) : mj_Met g l kY_Reader_both (d + 6) [.ref o0] M0 n0 0 0 (tm_Q tm_FT (tm_in w_Reader_both_q0) x9 T0 M0 n0 (fun r _ M => ∃ v : Int32, r = some (.int v) ∧ 0 ≤ v.toInt ∧ v.toInt ≤ 1 ∧ (v.toInt = 1 → tm_at M o0 9 16 (.int p)))) := by
  refine mj_enter (by decide) (Nat.le_of_ble_eq_true rfl) ?_
  refine mv_aload_n d_Reader_both_0 rfl rfl ?_
  obtain ⟨_, b7, -⟩ := I0.1 _ _ h_o0
  refine mv_callV (kc' := 0) (ks' := 0) (As := []) (st9 := [.ref o0]) d_Reader_both_1 lV_Reader_206 b7 rfl (tc_Reader_term_q0 (d := d) (x9 := x9) (o0 := o0) h_o0 (p := p) hO (by omega) I0.start) rfl (Nat.le_of_ble_eq_true rfl) (Nat.le_of_ble_eq_true rfl) (Nat.le_of_ble_eq_true rfl) (hst := rfl) (fun b1r M2 n3 b1 => ?_)
  obtain ⟨T4, J5, v8, rfl, b9, b10, o11⟩ := b1
  have I6 := I0.call J5 (tm_sub (by decide)) (Or.inl rfl)
  have t12 := J5.up h_o0
  have := mz_hi v8
  refine mv_if_neZ (tgt := 9) (a := v8.toInt) d_Reader_both_4 (by decide) rfl (fun b13 => ?_) (fun b13 => ?_)
  · have q14 := o11 (by omega)
    refine mv_iconst (v := 0) d_Reader_both_9 (by decide) ?_
    refine mv_istore_n (lv' := [(1, .int 0), (0, .ref o0)]) d_Reader_both_10 rfl (by decide) rfl ?_
    have L11_15 : ∀ (k : Nat) (i1_15 : Int32) (T_15 : tm_H) (M_15 : mj_M) (n_15 : Nat), tm_I tm_FT (tm_in w_Reader_both_q0) x9 T0 M0 n0 T_15 M_15 n_15 → T_15 o0 = some (0, 9, 0) → 0 ≤ i1_15.toInt → tm_at M_15 o0 9 16 (.int p) → 2147483647 - i1_15.toInt < (k : Int) → mj_V g l kY_Reader_both (d + 6) 11 [(1, .int i1_15), (0, .ref o0)] [] M_15 n_15 0 0 (tm_Q tm_FT (tm_in w_Reader_both_q0) x9 T0 M0 n0 (fun r _ M => ∃ v : Int32, r = some (.int v) ∧ 0 ≤ v.toInt ∧ v.toInt ≤ 1 ∧ (v.toInt = 1 → tm_at M o0 9 16 (.int p)))) := by
      intro k15
      induction k15 with
      | zero =>
        intro i1_15 T_15 M_15 n_15 I_15 h_q0_15 iv0_15 kp0_15 hk15
        have := mz_hi i1_15
        omega
      | succ k15 ih15 =>
        intro i1_15 T_15 M_15 n_15 I_15 h_q0_15 iv0_15 kp0_15 hk15
        refine mv_iload_n d_Reader_both_11 rfl rfl ?_
        refine mv_sipush (v := 400) d_Reader_both_12 (by decide) ?_
        have := mz_hi i1_15
        refine mv_icmp_geZ (tgt := 53) (a := i1_15.toInt) (b := 400) d_Reader_both_15 (by decide) rfl (by decide) (fun b16 => ?_) (fun b16 => ?_)
        · refine mv_iconst (v := 1) d_Reader_both_53 (by decide) ?_
          exact mv_iret d_Reader_both_54 rfl (by decide) ⟨_, I_15, _, rfl, by decide, by decide, fun _ => kp0_15⟩
        · refine mv_aload_n d_Reader_both_18 rfl rfl ?_
          refine mv_bipush (v := 31) d_Reader_both_19 (by decide) ?_
          obtain ⟨_, b23, -⟩ := I_15.1 _ _ h_q0_15
          refine mv_callV (kc' := 0) (ks' := 0) (As := [.int 31]) (st9 := [.int 31, .ref o0]) d_Reader_both_21 lV_Reader_52 b23 rfl (tc_Reader_isWord (d := (d + 5)) (x9 := x9) (o0 := o0) (x1 := 31) h_q0_15 I_15.start) rfl (Nat.le_of_ble_eq_true rfl) (Nat.le_of_ble_eq_true rfl) (Nat.le_of_ble_eq_true rfl) (hst := rfl) (fun b17r M18 n19 b17 => ?_)
          obtain ⟨T20, J21, v24, rfl, b25, b26⟩ := b17
          have I22 := I_15.call J21 (tm_sub (by decide)) (Or.inl rfl)
          have t27 := J21.up h_q0_15
          have q28 := J21.keep h_q0_15 (by decide) kp0_15
          have := mz_hi v24
          refine mv_if_eqZ (tgt := 53) (a := v24.toInt) d_Reader_both_24 (by decide) rfl (fun b29 => ?_) (fun b29 => ?_)
          · refine mv_iconst (v := 1) d_Reader_both_53 (by decide) ?_
            exact mv_iret d_Reader_both_54 rfl (by decide) ⟨_, I22, _, rfl, by decide, by decide, fun _ => q28⟩
          · refine mv_aload_n d_Reader_both_27 rfl rfl ?_
            obtain ⟨_, b36, -⟩ := I22.1 _ _ t27
            refine mv_callV (kc' := 0) (ks' := 0) (As := []) (st9 := [.ref o0]) d_Reader_both_28 lV_Reader_82 b36 rfl (tc_Reader_advance (d := (d + 5)) (x9 := x9) (o0 := o0) t27 I22.start) rfl (Nat.le_of_ble_eq_true rfl) (Nat.le_of_ble_eq_true rfl) (Nat.le_of_ble_eq_true rfl) (hst := rfl) (fun b30r M31 n32 b30 => ?_)
            obtain ⟨T33, J34, rfl⟩ := b30
            have I35 := I22.call J34 (tm_sub (by decide)) (Or.inl rfl)
            have t37 := J34.up t27
            have q38 := J34.keep t27 (by decide) q28
            refine mv_aload_n d_Reader_both_31 rfl rfl ?_
            obtain ⟨_, b45, -⟩ := I35.1 _ _ t37
            refine mv_callV (kc' := 0) (ks' := 0) (As := []) (st9 := [.ref o0]) d_Reader_both_32 lV_Reader_206 b45 rfl (tc_Reader_term_q0 (d := d) (x9 := x9) (o0 := o0) t37 (p := p) q38 (by omega) I35.start) rfl (Nat.le_of_ble_eq_true rfl) (Nat.le_of_ble_eq_true rfl) (Nat.le_of_ble_eq_true rfl) (hst := rfl) (fun b39r M40 n41 b39 => ?_)
            obtain ⟨T42, J43, v46, rfl, b47, b48, o49⟩ := b39
            have I44 := I35.call J43 (tm_sub (by decide)) (Or.inl rfl)
            have t50 := J43.up t37
            have := mz_hi v46
            refine mv_if_neZ (tgt := 40) (a := v46.toInt) d_Reader_both_35 (by decide) rfl (fun b51 => ?_) (fun b51 => ?_)
            · have q52 := o49 (by omega)
              refine mv_aload_n d_Reader_both_40 rfl rfl ?_
              refine mv_bipush (v := 9) d_Reader_both_41 (by decide) ?_
              refine mv_iconst (v := 0) d_Reader_both_43 (by decide) ?_
              obtain ⟨_, b59, -⟩ := I44.1 _ _ t50
              refine mv_callV (kc' := 0) (ks' := 0) (As := [.int 9, .int 0]) (st9 := [.int 0, .int 9, .ref o0]) d_Reader_both_44 lV_Reader_203 b59 rfl (tc_Reader_emit (d := (d + 5)) (x9 := x9) (o0 := o0) (x1 := 9) (x2 := 0) t50 I44.start) rfl (Nat.le_of_ble_eq_true rfl) (Nat.le_of_ble_eq_true rfl) (Nat.le_of_ble_eq_true rfl) (hst := rfl) (fun b53r M54 n55 b53 => ?_)
              obtain ⟨T56, J57, rfl⟩ := b53
              have I58 := I44.call J57 (tm_sub (by decide)) (Or.inl rfl)
              have t60 := J57.up t50
              have q61 := J57.keep t50 (by decide) q52
              refine mv_iinc (v := (i1_15 + 1)) (lv' := [(1, .int (i1_15 + 1)), (0, .ref o0)]) d_Reader_both_47 rfl rfl (by decide) rfl ?_
              refine mv_goto (tgt := 11) d_Reader_both_50 (by decide) ?_
              have b62 : (i1_15 + 1).toInt = i1_15.toInt + 1 := mz_addn 1 1 (by decide) (by have := mz_lo i1_15; omega) (by have := mz_hi i1_15; omega)
              exact (ih15 (i1_15 + 1) T56 M54 n55 I58 t60 (by first | omega | decide) q61 (by omega))
            · refine mv_iconst (v := 0) d_Reader_both_38 (by decide) ?_
              exact mv_iret d_Reader_both_39 rfl (by decide) ⟨_, I44, _, rfl, by decide, by decide, fun h => absurd h (by decide)⟩
    exact mv_less (Nat.zero_le _) (Nat.zero_le _) (L11_15 4294967296 0 T4 M2 n3 I6 t12 (by first | omega | decide) q14 (by show (2147483647 - (0 : Int) : Int) < _; decide))
  · refine mv_iconst (v := 0) d_Reader_both_7 (by decide) ?_
    exact mv_iret d_Reader_both_8 rfl (by decide) ⟨_, I6, _, rfl, by decide, by decide, fun h => absurd h (by decide)⟩
theorem lV_Reader_198 : mj_lV "TrustDesk$Reader" 198 kY_Reader_both 0 := ⟨⟨(mj_in1 (List.mem_of_getElem? (i := 479) (by decide +kernel)) rfl), (mj_in1 (List.mem_of_getElem? (i := 3) (by decide +kernel)) rfl), (mj_in1 (List.mem_of_getElem? (i := 482) (by decide +kernel)) rfl), by decide, rfl, by decide⟩, (mj_in1 (List.mem_of_getElem? (i := 481) (by decide +kernel)) rfl), (mj_in (List.mem_append_left _ (List.mem_of_getElem? (i := 18) (by decide +kernel))) rfl)⟩
theorem d_Reader_condition_4 : decode kY_Reader_condition.2.1 4 = .ok (.ifCond .ne 5, 3) := by decide +kernel
theorem d_Reader_condition_9 : decode kY_Reader_condition.2.1 9 = .ok (.iconst 0, 1) := by decide +kernel
theorem d_Reader_condition_10 : decode kY_Reader_condition.2.1 10 = .ok (.istore_n 1, 1) := by decide +kernel
theorem d_Reader_condition_11 : decode kY_Reader_condition.2.1 11 = .ok (.iload_n 1, 1) := by decide +kernel
theorem d_Reader_condition_12 : decode kY_Reader_condition.2.1 12 = .ok (.sipush 400, 3) := by decide +kernel
theorem d_Reader_condition_15 : decode kY_Reader_condition.2.1 15 = .ok (.if_icmp .ge 38, 3) := by decide +kernel
theorem d_Reader_condition_53 : decode kY_Reader_condition.2.1 53 = .ok (.iconst 1, 1) := by decide +kernel
theorem d_Reader_condition_54 : decode kY_Reader_condition.2.1 54 = .ok (.ireturn, 1) := by decide +kernel
theorem d_Reader_condition_18 : decode kY_Reader_condition.2.1 18 = .ok (.aload_n 0, 1) := by decide +kernel
theorem d_Reader_condition_19 : decode kY_Reader_condition.2.1 19 = .ok (.bipush 32, 2) := by decide +kernel
theorem d_Reader_condition_21 : decode kY_Reader_condition.2.1 21 = .ok (.invokevirtual 52, 3) := by decide +kernel
theorem d_Reader_condition_24 : decode kY_Reader_condition.2.1 24 = .ok (.ifCond .eq 29, 3) := by decide +kernel
theorem d_Reader_condition_27 : decode kY_Reader_condition.2.1 27 = .ok (.aload_n 0, 1) := by decide +kernel
theorem d_Reader_condition_28 : decode kY_Reader_condition.2.1 28 = .ok (.invokevirtual 82, 3) := by decide +kernel
theorem d_Reader_condition_31 : decode kY_Reader_condition.2.1 31 = .ok (.aload_n 0, 1) := by decide +kernel
theorem d_Reader_condition_32 : decode kY_Reader_condition.2.1 32 = .ok (.invokevirtual 198, 3) := by decide +kernel
theorem d_Reader_condition_35 : decode kY_Reader_condition.2.1 35 = .ok (.ifCond .ne 5, 3) := by decide +kernel
theorem d_Reader_condition_40 : decode kY_Reader_condition.2.1 40 = .ok (.aload_n 0, 1) := by decide +kernel
theorem d_Reader_condition_41 : decode kY_Reader_condition.2.1 41 = .ok (.bipush 10, 2) := by decide +kernel
theorem d_Reader_condition_43 : decode kY_Reader_condition.2.1 43 = .ok (.iconst 0, 1) := by decide +kernel
theorem d_Reader_condition_44 : decode kY_Reader_condition.2.1 44 = .ok (.invokevirtual 203, 3) := by decide +kernel
theorem d_Reader_condition_47 : decode kY_Reader_condition.2.1 47 = .ok (.iinc 1 1, 3) := by decide +kernel
theorem d_Reader_condition_50 : decode kY_Reader_condition.2.1 50 = .ok (.goto (-39), 3) := by decide +kernel
theorem d_Reader_condition_38 : decode kY_Reader_condition.2.1 38 = .ok (.iconst 0, 1) := by decide +kernel
theorem d_Reader_condition_39 : decode kY_Reader_condition.2.1 39 = .ok (.ireturn, 1) := by decide +kernel
theorem d_Reader_condition_7 : decode kY_Reader_condition.2.1 7 = .ok (.iconst 0, 1) := by decide +kernel
theorem d_Reader_condition_8 : decode kY_Reader_condition.2.1 8 = .ok (.ireturn, 1) := by decide +kernel
def w_Reader_condition_q0 : List Nat := [901, 902, 909, 910, 911, 912, 913, 914, 916, 918, 967]
theorem tc_Reader_condition_q0 {g : mj_G} {l : Launch} {d : Nat} {T0 : tm_H} {M0 : mj_M} {n0 x9 : Nat} {o0 : Nat} (h_o0 : T0 o0 = some (0, 9, 0)) {p : Int32} (hO : tm_at M0 o0 9 16 (.int p)) (hp : 4 ≤ p.toInt) (I0 : tm_I tm_FT (tm_in w_Reader_condition_q0) x9 T0 M0 n0 T0 M0 n0) : mj_Met g l kY_Reader_condition (d + 7) [.ref o0] M0 n0 0 0 (tm_Q tm_FT (tm_in w_Reader_condition_q0) x9 T0 M0 n0 (fun r _ M => ∃ v : Int32, r = some (.int v) ∧ 0 ≤ v.toInt ∧ v.toInt ≤ 1 ∧ (v.toInt = 1 → tm_at M o0 9 16 (.int p)))) := by
  refine mj_enter (by decide) (Nat.le_of_ble_eq_true rfl) ?_
  refine mv_aload_n d_Reader_condition_0 rfl rfl ?_
  obtain ⟨_, b7, -⟩ := I0.1 _ _ h_o0
  refine mv_callV (kc' := 0) (ks' := 0) (As := []) (st9 := [.ref o0]) d_Reader_condition_1 lV_Reader_198 b7 rfl (tc_Reader_both_q0 (d := d) (x9 := x9) (o0 := o0) h_o0 (p := p) hO (by omega) I0.start) rfl (Nat.le_of_ble_eq_true rfl) (Nat.le_of_ble_eq_true rfl) (Nat.le_of_ble_eq_true rfl) (hst := rfl) (fun b1r M2 n3 b1 => ?_)
  obtain ⟨T4, J5, v8, rfl, b9, b10, o11⟩ := b1
  have I6 := I0.call J5 (tm_sub (by decide)) (Or.inl rfl)
  have t12 := J5.up h_o0
  have := mz_hi v8
  refine mv_if_neZ (tgt := 9) (a := v8.toInt) d_Reader_condition_4 (by decide) rfl (fun b13 => ?_) (fun b13 => ?_)
  · have q14 := o11 (by omega)
    refine mv_iconst (v := 0) d_Reader_condition_9 (by decide) ?_
    refine mv_istore_n (lv' := [(1, .int 0), (0, .ref o0)]) d_Reader_condition_10 rfl (by decide) rfl ?_
    have L11_15 : ∀ (k : Nat) (i1_15 : Int32) (T_15 : tm_H) (M_15 : mj_M) (n_15 : Nat), tm_I tm_FT (tm_in w_Reader_condition_q0) x9 T0 M0 n0 T_15 M_15 n_15 → T_15 o0 = some (0, 9, 0) → 0 ≤ i1_15.toInt → tm_at M_15 o0 9 16 (.int p) → 2147483647 - i1_15.toInt < (k : Int) → mj_V g l kY_Reader_condition (d + 7) 11 [(1, .int i1_15), (0, .ref o0)] [] M_15 n_15 0 0 (tm_Q tm_FT (tm_in w_Reader_condition_q0) x9 T0 M0 n0 (fun r _ M => ∃ v : Int32, r = some (.int v) ∧ 0 ≤ v.toInt ∧ v.toInt ≤ 1 ∧ (v.toInt = 1 → tm_at M o0 9 16 (.int p)))) := by
      intro k15
      induction k15 with
      | zero =>
        intro i1_15 T_15 M_15 n_15 I_15 h_q0_15 iv0_15 kp0_15 hk15
        have := mz_hi i1_15
        omega
      | succ k15 ih15 =>
        intro i1_15 T_15 M_15 n_15 I_15 h_q0_15 iv0_15 kp0_15 hk15
        refine mv_iload_n d_Reader_condition_11 rfl rfl ?_
        refine mv_sipush (v := 400) d_Reader_condition_12 (by decide) ?_
        have := mz_hi i1_15
        refine mv_icmp_geZ (tgt := 53) (a := i1_15.toInt) (b := 400) d_Reader_condition_15 (by decide) rfl (by decide) (fun b16 => ?_) (fun b16 => ?_)
        · refine mv_iconst (v := 1) d_Reader_condition_53 (by decide) ?_
          exact mv_iret d_Reader_condition_54 rfl (by decide) ⟨_, I_15, _, rfl, by decide, by decide, fun _ => kp0_15⟩
        · refine mv_aload_n d_Reader_condition_18 rfl rfl ?_
          refine mv_bipush (v := 32) d_Reader_condition_19 (by decide) ?_
          obtain ⟨_, b23, -⟩ := I_15.1 _ _ h_q0_15
          refine mv_callV (kc' := 0) (ks' := 0) (As := [.int 32]) (st9 := [.int 32, .ref o0]) d_Reader_condition_21 lV_Reader_52 b23 rfl (tc_Reader_isWord (d := (d + 6)) (x9 := x9) (o0 := o0) (x1 := 32) h_q0_15 I_15.start) rfl (Nat.le_of_ble_eq_true rfl) (Nat.le_of_ble_eq_true rfl) (Nat.le_of_ble_eq_true rfl) (hst := rfl) (fun b17r M18 n19 b17 => ?_)
          obtain ⟨T20, J21, v24, rfl, b25, b26⟩ := b17
          have I22 := I_15.call J21 (tm_sub (by decide)) (Or.inl rfl)
          have t27 := J21.up h_q0_15
          have q28 := J21.keep h_q0_15 (by decide) kp0_15
          have := mz_hi v24
          refine mv_if_eqZ (tgt := 53) (a := v24.toInt) d_Reader_condition_24 (by decide) rfl (fun b29 => ?_) (fun b29 => ?_)
          · refine mv_iconst (v := 1) d_Reader_condition_53 (by decide) ?_
            exact mv_iret d_Reader_condition_54 rfl (by decide) ⟨_, I22, _, rfl, by decide, by decide, fun _ => q28⟩
          · refine mv_aload_n d_Reader_condition_27 rfl rfl ?_
            obtain ⟨_, b36, -⟩ := I22.1 _ _ t27
            refine mv_callV (kc' := 0) (ks' := 0) (As := []) (st9 := [.ref o0]) d_Reader_condition_28 lV_Reader_82 b36 rfl (tc_Reader_advance (d := (d + 6)) (x9 := x9) (o0 := o0) t27 I22.start) rfl (Nat.le_of_ble_eq_true rfl) (Nat.le_of_ble_eq_true rfl) (Nat.le_of_ble_eq_true rfl) (hst := rfl) (fun b30r M31 n32 b30 => ?_)
            obtain ⟨T33, J34, rfl⟩ := b30
            have I35 := I22.call J34 (tm_sub (by decide)) (Or.inl rfl)
            have t37 := J34.up t27
            have q38 := J34.keep t27 (by decide) q28
            refine mv_aload_n d_Reader_condition_31 rfl rfl ?_
            obtain ⟨_, b45, -⟩ := I35.1 _ _ t37
            refine mv_callV (kc' := 0) (ks' := 0) (As := []) (st9 := [.ref o0]) d_Reader_condition_32 lV_Reader_198 b45 rfl (tc_Reader_both_q0 (d := d) (x9 := x9) (o0 := o0) t37 (p := p) q38 (by omega) I35.start) rfl (Nat.le_of_ble_eq_true rfl) (Nat.le_of_ble_eq_true rfl) (Nat.le_of_ble_eq_true rfl) (hst := rfl) (fun b39r M40 n41 b39 => ?_)
            obtain ⟨T42, J43, v46, rfl, b47, b48, o49⟩ := b39
            have I44 := I35.call J43 (tm_sub (by decide)) (Or.inl rfl)
            have t50 := J43.up t37
            have := mz_hi v46
            refine mv_if_neZ (tgt := 40) (a := v46.toInt) d_Reader_condition_35 (by decide) rfl (fun b51 => ?_) (fun b51 => ?_)
            · have q52 := o49 (by omega)
              refine mv_aload_n d_Reader_condition_40 rfl rfl ?_
              refine mv_bipush (v := 10) d_Reader_condition_41 (by decide) ?_
              refine mv_iconst (v := 0) d_Reader_condition_43 (by decide) ?_
              obtain ⟨_, b59, -⟩ := I44.1 _ _ t50
              refine mv_callV (kc' := 0) (ks' := 0) (As := [.int 10, .int 0]) (st9 := [.int 0, .int 10, .ref o0]) d_Reader_condition_44 lV_Reader_203 b59 rfl (tc_Reader_emit (d := (d + 6)) (x9 := x9) (o0 := o0) (x1 := 10) (x2 := 0) t50 I44.start) rfl (Nat.le_of_ble_eq_true rfl) (Nat.le_of_ble_eq_true rfl) (Nat.le_of_ble_eq_true rfl) (hst := rfl) (fun b53r M54 n55 b53 => ?_)
              obtain ⟨T56, J57, rfl⟩ := b53
              have I58 := I44.call J57 (tm_sub (by decide)) (Or.inl rfl)
              have t60 := J57.up t50
              have q61 := J57.keep t50 (by decide) q52
              refine mv_iinc (v := (i1_15 + 1)) (lv' := [(1, .int (i1_15 + 1)), (0, .ref o0)]) d_Reader_condition_47 rfl rfl (by decide) rfl ?_
              refine mv_goto (tgt := 11) d_Reader_condition_50 (by decide) ?_
              have b62 : (i1_15 + 1).toInt = i1_15.toInt + 1 := mz_addn 1 1 (by decide) (by have := mz_lo i1_15; omega) (by have := mz_hi i1_15; omega)
              exact (ih15 (i1_15 + 1) T56 M54 n55 I58 t60 (by first | omega | decide) q61 (by omega))
            · refine mv_iconst (v := 0) d_Reader_condition_38 (by decide) ?_
              exact mv_iret d_Reader_condition_39 rfl (by decide) ⟨_, I44, _, rfl, by decide, by decide, fun h => absurd h (by decide)⟩
    exact mv_less (Nat.zero_le _) (Nat.zero_le _) (L11_15 4294967296 0 T4 M2 n3 I6 t12 (by first | omega | decide) q14 (by show (2147483647 - (0 : Int) : Int) < _; decide))
  · refine mv_iconst (v := 0) d_Reader_condition_7 (by decide) ?_
    exact mv_iret d_Reader_condition_8 rfl (by decide) ⟨_, I6, _, rfl, by decide, by decide, fun h => absurd h (by decide)⟩
theorem lV_Reader_124 : mj_lV "TrustDesk$Reader" 124 kY_Reader_condition 0 := ⟨⟨(mj_in1 (List.mem_of_getElem? (i := 475) (by decide +kernel)) rfl), (mj_in1 (List.mem_of_getElem? (i := 3) (by decide +kernel)) rfl), (mj_in1 (List.mem_of_getElem? (i := 478) (by decide +kernel)) rfl), by decide, rfl, by decide⟩, (mj_in1 (List.mem_of_getElem? (i := 477) (by decide +kernel)) rfl), (mj_in (List.mem_append_left _ (List.mem_of_getElem? (i := 17) (by decide +kernel))) rfl)⟩
theorem d_Reader_term_60 : decode kY_Reader_term.2.1 60 = .ok (.ifCond .ne 5, 3) := by decide +kernel
theorem d_Reader_term_65 : decode kY_Reader_term.2.1 65 = .ok (.aload_n 0, 1) := by decide +kernel
theorem d_Reader_term_66 : decode kY_Reader_term.2.1 66 = .ok (.dup, 1) := by decide +kernel
theorem d_Reader_term_67 : decode kY_Reader_term.2.1 67 = .ok (.getfield 73, 3) := by decide +kernel
theorem d_Reader_term_70 : decode kY_Reader_term.2.1 70 = .ok (.iconst 1, 1) := by decide +kernel
theorem d_Reader_term_71 : decode kY_Reader_term.2.1 71 = .ok (.isub, 1) := by decide +kernel
theorem d_Reader_term_72 : decode kY_Reader_term.2.1 72 = .ok (.putfield 73, 3) := by decide +kernel
theorem d_Reader_term_75 : decode kY_Reader_term.2.1 75 = .ok (.aload_n 0, 1) := by decide +kernel
theorem d_Reader_term_76 : decode kY_Reader_term.2.1 76 = .ok (.bipush 93, 2) := by decide +kernel
theorem d_Reader_term_78 : decode kY_Reader_term.2.1 78 = .ok (.invokevirtual 63, 3) := by decide +kernel
theorem d_Reader_term_81 : decode kY_Reader_term.2.1 81 = .ok (.ifCond .ne 49, 3) := by decide +kernel
theorem d_Reader_term_84 : decode kY_Reader_term.2.1 84 = .ok (.iconst 0, 1) := by decide +kernel
theorem d_Reader_term_85 : decode kY_Reader_term.2.1 85 = .ok (.ireturn, 1) := by decide +kernel
def w_Reader_term_q1 : List Nat := [901, 902, 909, 910, 911, 912, 913, 914, 916, 918, 967]
theorem tc_Reader_term_q1 {g : mj_G} {l : Launch} {d : Nat} {T0 : tm_H} {M0 : mj_M} {n0 x9 : Nat} {o0 : Nat} (h_o0 : T0 o0 = some (0, 9, 0)) {p : Int32} (hO : tm_at M0 o0 9 16 (.int p)) (hp : 3 ≤ p.toInt) (I0 : tm_I tm_FT (tm_in w_Reader_term_q1) x9 T0 M0 n0 T0 M0 n0) : mj_Met g l kY_Reader_term (d + 8) [.ref o0] M0 n0 0 0 (tm_Q tm_FT (tm_in w_Reader_term_q1) x9 T0 M0 n0 (fun r _ M => ∃ v : Int32, r = some (.int v) ∧ 0 ≤ v.toInt ∧ v.toInt ≤ 1 ∧ (v.toInt = 1 → tm_at M o0 9 16 (.int p)))) := by
  refine mj_enter (by decide) (Nat.le_of_ble_eq_true rfl) ?_
  refine mv_iconst (v := 0) d_Reader_term_0 (by decide) ?_
  refine mv_istore_n (lv' := [(1, .int 0), (0, .ref o0)]) d_Reader_term_1 rfl (by decide) rfl ?_
  refine mv_iconst (v := 0) d_Reader_term_2 (by decide) ?_
  refine mv_istore_n (lv' := [(2, .int 0), (1, .int 0), (0, .ref o0)]) d_Reader_term_3 rfl (by decide) rfl ?_
  have L4_1 : ∀ (k : Nat) (i2_1 : Int32) (i1_1 : Int32) (T_1 : tm_H) (M_1 : mj_M) (n_1 : Nat), tm_I tm_FT (tm_in w_Reader_term_q1) x9 T0 M0 n0 T_1 M_1 n_1 → T_1 o0 = some (0, 9, 0) → 0 ≤ i2_1.toInt → tm_at M_1 o0 9 16 (.int p) → 2147483647 - i2_1.toInt < (k : Int) → mj_V g l kY_Reader_term (d + 8) 4 [(2, .int i2_1), (1, .int i1_1), (0, .ref o0)] [] M_1 n_1 0 0 (tm_Q tm_FT (tm_in w_Reader_term_q1) x9 T0 M0 n0 (fun r _ M => ∃ v : Int32, r = some (.int v) ∧ 0 ≤ v.toInt ∧ v.toInt ≤ 1 ∧ (v.toInt = 1 → tm_at M o0 9 16 (.int p)))) := by
    intro k1
    induction k1 with
    | zero =>
      intro i2_1 i1_1 T_1 M_1 n_1 I_1 h_q0_1 iv0_1 kp0_1 hk1
      have := mz_hi i2_1
      omega
    | succ k1 ih1 =>
      intro i2_1 i1_1 T_1 M_1 n_1 I_1 h_q0_1 iv0_1 kp0_1 hk1
      refine mv_iload_n d_Reader_term_4 rfl rfl ?_
      refine mv_sipush (v := 400) d_Reader_term_5 (by decide) ?_
      have := mz_hi i2_1
      refine mv_icmp_geZ (tgt := 40) (a := i2_1.toInt) (b := 400) d_Reader_term_8 (by decide) rfl (by decide) (fun b2 => ?_) (fun b2 => ?_)
      · refine mv_aload_n d_Reader_term_40 rfl rfl ?_
        refine mv_bipush (v := 91) d_Reader_term_41 (by decide) ?_
        obtain ⟨_, b9, -⟩ := I_1.1 _ _ h_q0_1
        refine mv_callV (kc' := 0) (ks' := 0) (As := [.int 91]) (st9 := [.int 91, .ref o0]) d_Reader_term_43 lV_Reader_209 b9 rfl (tc_Reader_isSign (d := (d + 7)) (x9 := x9) (o0 := o0) (x1 := 91) h_q0_1 I_1.start) rfl (Nat.le_of_ble_eq_true rfl) (Nat.le_of_ble_eq_true rfl) (Nat.le_of_ble_eq_true rfl) (hst := rfl) (fun b3r M4 n5 b3 => ?_)
        obtain ⟨T6, J7, v10, rfl, b11, b12⟩ := b3
        have I8 := I_1.call J7 (tm_sub (by decide)) (Or.inl rfl)
        have t13 := J7.up h_q0_1
        have q14 := J7.keep h_q0_1 (by decide) kp0_1
        have := mz_hi v10
        refine mv_if_eqZ (tgt := 86) (a := v10.toInt) d_Reader_term_46 (by decide) rfl (fun b15 => ?_) (fun b15 => ?_)
        · refine mv_aload_n d_Reader_term_86 rfl rfl ?_
          obtain ⟨_, b22, -⟩ := I8.1 _ _ t13
          refine mv_callV (kc' := 0) (ks' := 0) (As := []) (st9 := [.ref o0]) d_Reader_term_87 lV_Reader_186 b22 rfl (tc_Reader_sum_q1 (d := d) (x9 := x9) (o0 := o0) t13 (p := p) q14 (by omega) I8.start) rfl (Nat.le_of_ble_eq_true rfl) (Nat.le_of_ble_eq_true rfl) (Nat.le_of_ble_eq_true rfl) (hst := rfl) (fun b16r M17 n18 b16 => ?_)
          obtain ⟨T19, J20, v23, rfl, b24, b25, o26⟩ := b16
          have I21 := I8.call J20 (tm_sub (by decide)) (Or.inl rfl)
          have t27 := J20.up t13
          have := mz_hi v23
          refine mv_if_neZ (tgt := 95) (a := v23.toInt) d_Reader_term_90 (by decide) rfl (fun b28 => ?_) (fun b28 => ?_)
          · have q29 := o26 (by omega)
            refine mv_aload_n d_Reader_term_95 rfl rfl ?_
            obtain ⟨_, b36, -⟩ := I21.1 _ _ t27
            refine mv_callV (kc' := 0) (ks' := 0) (As := []) (st9 := [.ref o0]) d_Reader_term_96 lV_Reader_215 b36 rfl (tc_Reader_comparisonHere (d := (d + 6)) (x9 := x9) (o0 := o0) t27 I21.start) rfl (Nat.le_of_ble_eq_true rfl) (Nat.le_of_ble_eq_true rfl) (Nat.le_of_ble_eq_true rfl) (hst := rfl) (fun b30r M31 n32 b30 => ?_)
            obtain ⟨T33, J34, v37, rfl⟩ := b30
            have I35 := I21.call J34 (tm_sub (by decide)) (Or.inl rfl)
            have t38 := J34.up t27
            have q39 := J34.keep t27 (by decide) q29
            refine mv_istore_n (lv' := [(2, .int v37), (1, .int i1_1), (0, .ref o0)]) d_Reader_term_99 rfl (by decide) rfl ?_
            refine mv_iload_n d_Reader_term_100 rfl rfl ?_
            refine mv_iconst (v := (-1)) d_Reader_term_101 (by decide) ?_
            have := mz_hi v37
            refine mv_icmp_neZ (tgt := 111) (a := v37.toInt) (b := (-1)) d_Reader_term_102 (by decide) rfl (by decide) (fun b40 => ?_) (fun b40 => ?_)
            · refine mv_aload_n d_Reader_term_111 rfl rfl ?_
              obtain ⟨_, b47, -⟩ := I35.1 _ _ t38
              refine mv_callV (kc' := 0) (ks' := 0) (As := []) (st9 := [.ref o0]) d_Reader_term_112 lV_Reader_82 b47 rfl (tc_Reader_advance (d := (d + 7)) (x9 := x9) (o0 := o0) t38 I35.start) rfl (Nat.le_of_ble_eq_true rfl) (Nat.le_of_ble_eq_true rfl) (Nat.le_of_ble_eq_true rfl) (hst := rfl) (fun b41r M42 n43 b41 => ?_)
              obtain ⟨T44, J45, rfl⟩ := b41
              have I46 := I35.call J45 (tm_sub (by decide)) (Or.inl rfl)
              have t48 := J45.up t38
              have q49 := J45.keep t38 (by decide) q39
              refine mv_aload_n d_Reader_term_115 rfl rfl ?_
              obtain ⟨_, b56, -⟩ := I46.1 _ _ t48
              refine mv_callV (kc' := 0) (ks' := 0) (As := []) (st9 := [.ref o0]) d_Reader_term_116 lV_Reader_186 b56 rfl (tc_Reader_sum_q1 (d := d) (x9 := x9) (o0 := o0) t48 (p := p) q49 (by omega) I46.start) rfl (Nat.le_of_ble_eq_true rfl) (Nat.le_of_ble_eq_true rfl) (Nat.le_of_ble_eq_true rfl) (hst := rfl) (fun b50r M51 n52 b50 => ?_)
              obtain ⟨T53, J54, v57, rfl, b58, b59, o60⟩ := b50
              have I55 := I46.call J54 (tm_sub (by decide)) (Or.inl rfl)
              have t61 := J54.up t48
              have := mz_hi v57
              refine mv_if_neZ (tgt := 124) (a := v57.toInt) d_Reader_term_119 (by decide) rfl (fun b62 => ?_) (fun b62 => ?_)
              · have q63 := o60 (by omega)
                refine mv_aload_n d_Reader_term_124 rfl rfl ?_
                refine mv_iload_n d_Reader_term_125 rfl rfl ?_
                refine mv_iconst (v := 0) d_Reader_term_126 (by decide) ?_
                obtain ⟨_, b70, -⟩ := I55.1 _ _ t61
                refine mv_callV (kc' := 0) (ks' := 0) (As := [.int v37, .int 0]) (st9 := [.int 0, .int v37, .ref o0]) d_Reader_term_127 lV_Reader_203 b70 rfl (tc_Reader_emit (d := (d + 7)) (x9 := x9) (o0 := o0) (x1 := v37) (x2 := 0) t61 I55.start) rfl (Nat.le_of_ble_eq_true rfl) (Nat.le_of_ble_eq_true rfl) (Nat.le_of_ble_eq_true rfl) (hst := rfl) (fun b64r M65 n66 b64 => ?_)
                obtain ⟨T67, J68, rfl⟩ := b64
                have I69 := I55.call J68 (tm_sub (by decide)) (Or.inl rfl)
                have t71 := J68.up t61
                have q72 := J68.keep t61 (by decide) q63
                refine mv_iload_n d_Reader_term_130 rfl rfl ?_
                have := mz_hi i1_1
                refine mv_if_eqZ (tgt := 141) (a := i1_1.toInt) d_Reader_term_131 (by decide) rfl (fun b73 => ?_) (fun b73 => ?_)
                · refine mv_iconst (v := 1) d_Reader_term_141 (by decide) ?_
                  exact mv_iret d_Reader_term_142 rfl (by decide) ⟨_, I69, _, rfl, by decide, by decide, fun _ => q72⟩
                · refine mv_aload_n d_Reader_term_134 rfl rfl ?_
                  refine mv_bipush (v := 8) d_Reader_term_135 (by decide) ?_
                  refine mv_iconst (v := 0) d_Reader_term_137 (by decide) ?_
                  obtain ⟨_, b80, -⟩ := I69.1 _ _ t71
                  refine mv_callV (kc' := 0) (ks' := 0) (As := [.int 8, .int 0]) (st9 := [.int 0, .int 8, .ref o0]) d_Reader_term_138 lV_Reader_203 b80 rfl (tc_Reader_emit (d := (d + 7)) (x9 := x9) (o0 := o0) (x1 := 8) (x2 := 0) t71 I69.start) rfl (Nat.le_of_ble_eq_true rfl) (Nat.le_of_ble_eq_true rfl) (Nat.le_of_ble_eq_true rfl) (hst := rfl) (fun b74r M75 n76 b74 => ?_)
                  obtain ⟨T77, J78, rfl⟩ := b74
                  have I79 := I69.call J78 (tm_sub (by decide)) (Or.inl rfl)
                  have t81 := J78.up t71
                  have q82 := J78.keep t71 (by decide) q72
                  refine mv_iconst (v := 1) d_Reader_term_141 (by decide) ?_
                  exact mv_iret d_Reader_term_142 rfl (by decide) ⟨_, I79, _, rfl, by decide, by decide, fun _ => q82⟩
              · refine mv_iconst (v := 0) d_Reader_term_122 (by decide) ?_
                exact mv_iret d_Reader_term_123 rfl (by decide) ⟨_, I55, _, rfl, by decide, by decide, fun h => absurd h (by decide)⟩
            · refine mv_aload_n d_Reader_term_105 rfl rfl ?_
              refine mv_iconst (v := 1) d_Reader_term_106 (by decide) ?_
              obtain ⟨_, b89, -⟩ := I35.1 _ _ t38
              refine mv_callV (kc' := 0) (ks' := 0) (As := [.int 1]) (st9 := [.int 1, .ref o0]) d_Reader_term_107 lV_Reader_56 b89 rfl (tc_Reader_refuse (d := (d + 7)) (x9 := x9) (o0 := o0) (x1 := 1) t38 I35.start) rfl (Nat.le_of_ble_eq_true rfl) (Nat.le_of_ble_eq_true rfl) (Nat.le_of_ble_eq_true rfl) (hst := rfl) (fun b83r M84 n85 b83 => ?_)
              obtain ⟨T86, J87, rfl⟩ := b83
              have I88 := I35.call J87 (tm_sub (by decide)) (Or.inl rfl)
              have t90 := J87.up t38
              have q91 := J87.keep t38 (by decide) q39
              exact mv_iret d_Reader_term_110 rfl (by decide) ⟨_, I88, _, rfl, by decide, by decide, fun h => absurd h (by decide)⟩
          · refine mv_iconst (v := 0) d_Reader_term_93 (by decide) ?_
            exact mv_iret d_Reader_term_94 rfl (by decide) ⟨_, I21, _, rfl, by decide, by decide, fun h => absurd h (by decide)⟩
        · refine mv_aload_n d_Reader_term_49 rfl rfl ?_
          obtain ⟨_, b98, -⟩ := I8.1 _ _ t13
          refine mv_callV (kc' := 0) (ks' := 0) (As := []) (st9 := [.ref o0]) d_Reader_term_50 lV_Reader_212 b98 rfl (tc_Reader_openBracket_q1 (d := (d + 6)) (x9 := x9) (o0 := o0) t13 (p := p) q14 (by omega) I8.start) rfl (Nat.le_of_ble_eq_true rfl) (Nat.le_of_ble_eq_true rfl) (Nat.le_of_ble_eq_true rfl) (hst := rfl) (fun b92r M93 n94 b92 => ?_)
          obtain ⟨T95, J96, v99, rfl, b100, b101, o102⟩ := b92
          have I97 := I8.call J96 (tm_sub (by decide)) (Or.inl rfl)
          have t103 := J96.up t13
          have := mz_hi v99
          refine mv_if_eqZ (tgt := 63) (a := v99.toInt) d_Reader_term_53 (by decide) rfl (fun b104 => ?_) (fun b104 => ?_)
          · refine mv_iconst (v := 0) d_Reader_term_63 (by decide) ?_
            exact mv_iret d_Reader_term_64 rfl (by decide) ⟨_, I97, _, rfl, by decide, by decide, fun h => absurd h (by decide)⟩
          · obtain ⟨b106, q105⟩ := o102 (by omega)
            have b107 : (p + 1).toInt = p.toInt + 1 := mz_addn 1 1 (by decide) (by have := mz_lo p; omega) (by have := mz_hi p; omega)
            refine mv_aload_n d_Reader_term_56 rfl rfl ?_
            obtain ⟨_, b114, -⟩ := I97.1 _ _ t103
            refine mv_callV (kc' := 0) (ks' := 0) (As := []) (st9 := [.ref o0]) d_Reader_term_57 lV_Reader_124 b114 rfl (tc_Reader_condition_q0 (d := d) (x9 := x9) (o0 := o0) t103 (p := (p + 1)) q105 (by omega) I97.start) rfl (Nat.le_of_ble_eq_true rfl) (Nat.le_of_ble_eq_true rfl) (Nat.le_of_ble_eq_true rfl) (hst := rfl) (fun b108r M109 n110 b108 => ?_)
            obtain ⟨T111, J112, v115, rfl, b116, b117, o118⟩ := b108
            have I113 := I97.call J112 (tm_sub (by decide)) (Or.inl rfl)
            have t119 := J112.up t103
            have := mz_hi v115
            refine mv_if_neZ (tgt := 65) (a := v115.toInt) d_Reader_term_60 (by decide) rfl (fun b120 => ?_) (fun b120 => ?_)
            · have q121 := o118 (by omega)
              refine mv_aload_n d_Reader_term_65 rfl rfl ?_
              refine mv_dup d_Reader_term_66 rfl ?_
              refine tr_getK (k := 16) q121 d_Reader_term_67 f_Reader_73_9 ?_
              refine mv_iconst (v := 1) d_Reader_term_70 (by decide) ?_
              refine mv_isubv (v := p) d_Reader_term_71 (Int32.add_sub_cancel _ _) ?_
              refine tr_putK tm_okF I113 t119 (k := 16) rfl ⟨_, rfl⟩ (Or.inl (by decide)) d_Reader_term_72 p_Reader_73_9 rfl rfl (fun M122 I123 q124 K125 => ?_)
              refine mv_aload_n d_Reader_term_75 rfl rfl ?_
              refine mv_bipush (v := 93) d_Reader_term_76 (by decide) ?_
              obtain ⟨_, b132, -⟩ := I123.1 _ _ t119
              refine mv_callV (kc' := 0) (ks' := 0) (As := [.int 93]) (st9 := [.int 93, .ref o0]) d_Reader_term_78 lV_Reader_63 b132 rfl (tc_Reader_sign (d := (d + 6)) (x9 := x9) (o0 := o0) (x1 := 93) t119 I123.start) rfl (Nat.le_of_ble_eq_true rfl) (Nat.le_of_ble_eq_true rfl) (Nat.le_of_ble_eq_true rfl) (hst := rfl) (fun b126r M127 n128 b126 => ?_)
              obtain ⟨T129, J130, v133, rfl, b134, b135⟩ := b126
              have I131 := I123.call J130 (tm_sub (by decide)) (Or.inl rfl)
              have t136 := J130.up t119
              have q137 := J130.keep t119 (by decide) q124
              have := mz_hi v133
              refine mv_if_neZ (tgt := 130) (a := v133.toInt) d_Reader_term_81 (by decide) rfl (fun b138 => ?_) (fun b138 => ?_)
              · refine mv_iload_n d_Reader_term_130 rfl rfl ?_
                have := mz_hi i1_1
                refine mv_if_eqZ (tgt := 141) (a := i1_1.toInt) d_Reader_term_131 (by decide) rfl (fun b139 => ?_) (fun b139 => ?_)
                · refine mv_iconst (v := 1) d_Reader_term_141 (by decide) ?_
                  exact mv_iret d_Reader_term_142 rfl (by decide) ⟨_, I131, _, rfl, by decide, by decide, fun _ => q137⟩
                · refine mv_aload_n d_Reader_term_134 rfl rfl ?_
                  refine mv_bipush (v := 8) d_Reader_term_135 (by decide) ?_
                  refine mv_iconst (v := 0) d_Reader_term_137 (by decide) ?_
                  obtain ⟨_, b146, -⟩ := I131.1 _ _ t136
                  refine mv_callV (kc' := 0) (ks' := 0) (As := [.int 8, .int 0]) (st9 := [.int 0, .int 8, .ref o0]) d_Reader_term_138 lV_Reader_203 b146 rfl (tc_Reader_emit (d := (d + 7)) (x9 := x9) (o0 := o0) (x1 := 8) (x2 := 0) t136 I131.start) rfl (Nat.le_of_ble_eq_true rfl) (Nat.le_of_ble_eq_true rfl) (Nat.le_of_ble_eq_true rfl) (hst := rfl) (fun b140r M141 n142 b140 => ?_)
                  obtain ⟨T143, J144, rfl⟩ := b140
                  have I145 := I131.call J144 (tm_sub (by decide)) (Or.inl rfl)
                  have t147 := J144.up t136
                  have q148 := J144.keep t136 (by decide) q137
                  refine mv_iconst (v := 1) d_Reader_term_141 (by decide) ?_
                  exact mv_iret d_Reader_term_142 rfl (by decide) ⟨_, I145, _, rfl, by decide, by decide, fun _ => q148⟩
              · refine mv_iconst (v := 0) d_Reader_term_84 (by decide) ?_
                exact mv_iret d_Reader_term_85 rfl (by decide) ⟨_, I131, _, rfl, by decide, by decide, fun h => absurd h (by decide)⟩
            · refine mv_iconst (v := 0) d_Reader_term_63 (by decide) ?_
              exact mv_iret d_Reader_term_64 rfl (by decide) ⟨_, I113, _, rfl, by decide, by decide, fun h => absurd h (by decide)⟩
      · refine mv_aload_n d_Reader_term_11 rfl rfl ?_
        refine mv_bipush (v := 30) d_Reader_term_12 (by decide) ?_
        obtain ⟨_, b155, -⟩ := I_1.1 _ _ h_q0_1
        refine mv_callV (kc' := 0) (ks' := 0) (As := [.int 30]) (st9 := [.int 30, .ref o0]) d_Reader_term_14 lV_Reader_52 b155 rfl (tc_Reader_isWord (d := (d + 7)) (x9 := x9) (o0 := o0) (x1 := 30) h_q0_1 I_1.start) rfl (Nat.le_of_ble_eq_true rfl) (Nat.le_of_ble_eq_true rfl) (Nat.le_of_ble_eq_true rfl) (hst := rfl) (fun b149r M150 n151 b149 => ?_)
        obtain ⟨T152, J153, v156, rfl, b157, b158⟩ := b149
        have I154 := I_1.call J153 (tm_sub (by decide)) (Or.inl rfl)
        have t159 := J153.up h_q0_1
        have q160 := J153.keep h_q0_1 (by decide) kp0_1
        have := mz_hi v156
        refine mv_if_eqZ (tgt := 40) (a := v156.toInt) d_Reader_term_17 (by decide) rfl (fun b161 => ?_) (fun b161 => ?_)
        · refine mv_aload_n d_Reader_term_40 rfl rfl ?_
          refine mv_bipush (v := 91) d_Reader_term_41 (by decide) ?_
          obtain ⟨_, b168, -⟩ := I154.1 _ _ t159
          refine mv_callV (kc' := 0) (ks' := 0) (As := [.int 91]) (st9 := [.int 91, .ref o0]) d_Reader_term_43 lV_Reader_209 b168 rfl (tc_Reader_isSign (d := (d + 7)) (x9 := x9) (o0 := o0) (x1 := 91) t159 I154.start) rfl (Nat.le_of_ble_eq_true rfl) (Nat.le_of_ble_eq_true rfl) (Nat.le_of_ble_eq_true rfl) (hst := rfl) (fun b162r M163 n164 b162 => ?_)
          obtain ⟨T165, J166, v169, rfl, b170, b171⟩ := b162
          have I167 := I154.call J166 (tm_sub (by decide)) (Or.inl rfl)
          have t172 := J166.up t159
          have q173 := J166.keep t159 (by decide) q160
          have := mz_hi v169
          refine mv_if_eqZ (tgt := 86) (a := v169.toInt) d_Reader_term_46 (by decide) rfl (fun b174 => ?_) (fun b174 => ?_)
          · refine mv_aload_n d_Reader_term_86 rfl rfl ?_
            obtain ⟨_, b181, -⟩ := I167.1 _ _ t172
            refine mv_callV (kc' := 0) (ks' := 0) (As := []) (st9 := [.ref o0]) d_Reader_term_87 lV_Reader_186 b181 rfl (tc_Reader_sum_q1 (d := d) (x9 := x9) (o0 := o0) t172 (p := p) q173 (by omega) I167.start) rfl (Nat.le_of_ble_eq_true rfl) (Nat.le_of_ble_eq_true rfl) (Nat.le_of_ble_eq_true rfl) (hst := rfl) (fun b175r M176 n177 b175 => ?_)
            obtain ⟨T178, J179, v182, rfl, b183, b184, o185⟩ := b175
            have I180 := I167.call J179 (tm_sub (by decide)) (Or.inl rfl)
            have t186 := J179.up t172
            have := mz_hi v182
            refine mv_if_neZ (tgt := 95) (a := v182.toInt) d_Reader_term_90 (by decide) rfl (fun b187 => ?_) (fun b187 => ?_)
            · have q188 := o185 (by omega)
              refine mv_aload_n d_Reader_term_95 rfl rfl ?_
              obtain ⟨_, b195, -⟩ := I180.1 _ _ t186
              refine mv_callV (kc' := 0) (ks' := 0) (As := []) (st9 := [.ref o0]) d_Reader_term_96 lV_Reader_215 b195 rfl (tc_Reader_comparisonHere (d := (d + 6)) (x9 := x9) (o0 := o0) t186 I180.start) rfl (Nat.le_of_ble_eq_true rfl) (Nat.le_of_ble_eq_true rfl) (Nat.le_of_ble_eq_true rfl) (hst := rfl) (fun b189r M190 n191 b189 => ?_)
              obtain ⟨T192, J193, v196, rfl⟩ := b189
              have I194 := I180.call J193 (tm_sub (by decide)) (Or.inl rfl)
              have t197 := J193.up t186
              have q198 := J193.keep t186 (by decide) q188
              refine mv_istore_n (lv' := [(2, .int v196), (1, .int i1_1), (0, .ref o0)]) d_Reader_term_99 rfl (by decide) rfl ?_
              refine mv_iload_n d_Reader_term_100 rfl rfl ?_
              refine mv_iconst (v := (-1)) d_Reader_term_101 (by decide) ?_
              have := mz_hi v196
              refine mv_icmp_neZ (tgt := 111) (a := v196.toInt) (b := (-1)) d_Reader_term_102 (by decide) rfl (by decide) (fun b199 => ?_) (fun b199 => ?_)
              · refine mv_aload_n d_Reader_term_111 rfl rfl ?_
                obtain ⟨_, b206, -⟩ := I194.1 _ _ t197
                refine mv_callV (kc' := 0) (ks' := 0) (As := []) (st9 := [.ref o0]) d_Reader_term_112 lV_Reader_82 b206 rfl (tc_Reader_advance (d := (d + 7)) (x9 := x9) (o0 := o0) t197 I194.start) rfl (Nat.le_of_ble_eq_true rfl) (Nat.le_of_ble_eq_true rfl) (Nat.le_of_ble_eq_true rfl) (hst := rfl) (fun b200r M201 n202 b200 => ?_)
                obtain ⟨T203, J204, rfl⟩ := b200
                have I205 := I194.call J204 (tm_sub (by decide)) (Or.inl rfl)
                have t207 := J204.up t197
                have q208 := J204.keep t197 (by decide) q198
                refine mv_aload_n d_Reader_term_115 rfl rfl ?_
                obtain ⟨_, b215, -⟩ := I205.1 _ _ t207
                refine mv_callV (kc' := 0) (ks' := 0) (As := []) (st9 := [.ref o0]) d_Reader_term_116 lV_Reader_186 b215 rfl (tc_Reader_sum_q1 (d := d) (x9 := x9) (o0 := o0) t207 (p := p) q208 (by omega) I205.start) rfl (Nat.le_of_ble_eq_true rfl) (Nat.le_of_ble_eq_true rfl) (Nat.le_of_ble_eq_true rfl) (hst := rfl) (fun b209r M210 n211 b209 => ?_)
                obtain ⟨T212, J213, v216, rfl, b217, b218, o219⟩ := b209
                have I214 := I205.call J213 (tm_sub (by decide)) (Or.inl rfl)
                have t220 := J213.up t207
                have := mz_hi v216
                refine mv_if_neZ (tgt := 124) (a := v216.toInt) d_Reader_term_119 (by decide) rfl (fun b221 => ?_) (fun b221 => ?_)
                · have q222 := o219 (by omega)
                  refine mv_aload_n d_Reader_term_124 rfl rfl ?_
                  refine mv_iload_n d_Reader_term_125 rfl rfl ?_
                  refine mv_iconst (v := 0) d_Reader_term_126 (by decide) ?_
                  obtain ⟨_, b229, -⟩ := I214.1 _ _ t220
                  refine mv_callV (kc' := 0) (ks' := 0) (As := [.int v196, .int 0]) (st9 := [.int 0, .int v196, .ref o0]) d_Reader_term_127 lV_Reader_203 b229 rfl (tc_Reader_emit (d := (d + 7)) (x9 := x9) (o0 := o0) (x1 := v196) (x2 := 0) t220 I214.start) rfl (Nat.le_of_ble_eq_true rfl) (Nat.le_of_ble_eq_true rfl) (Nat.le_of_ble_eq_true rfl) (hst := rfl) (fun b223r M224 n225 b223 => ?_)
                  obtain ⟨T226, J227, rfl⟩ := b223
                  have I228 := I214.call J227 (tm_sub (by decide)) (Or.inl rfl)
                  have t230 := J227.up t220
                  have q231 := J227.keep t220 (by decide) q222
                  refine mv_iload_n d_Reader_term_130 rfl rfl ?_
                  have := mz_hi i1_1
                  refine mv_if_eqZ (tgt := 141) (a := i1_1.toInt) d_Reader_term_131 (by decide) rfl (fun b232 => ?_) (fun b232 => ?_)
                  · refine mv_iconst (v := 1) d_Reader_term_141 (by decide) ?_
                    exact mv_iret d_Reader_term_142 rfl (by decide) ⟨_, I228, _, rfl, by decide, by decide, fun _ => q231⟩
                  · refine mv_aload_n d_Reader_term_134 rfl rfl ?_
                    refine mv_bipush (v := 8) d_Reader_term_135 (by decide) ?_
                    refine mv_iconst (v := 0) d_Reader_term_137 (by decide) ?_
                    obtain ⟨_, b239, -⟩ := I228.1 _ _ t230
                    refine mv_callV (kc' := 0) (ks' := 0) (As := [.int 8, .int 0]) (st9 := [.int 0, .int 8, .ref o0]) d_Reader_term_138 lV_Reader_203 b239 rfl (tc_Reader_emit (d := (d + 7)) (x9 := x9) (o0 := o0) (x1 := 8) (x2 := 0) t230 I228.start) rfl (Nat.le_of_ble_eq_true rfl) (Nat.le_of_ble_eq_true rfl) (Nat.le_of_ble_eq_true rfl) (hst := rfl) (fun b233r M234 n235 b233 => ?_)
                    obtain ⟨T236, J237, rfl⟩ := b233
                    have I238 := I228.call J237 (tm_sub (by decide)) (Or.inl rfl)
                    have t240 := J237.up t230
                    have q241 := J237.keep t230 (by decide) q231
                    refine mv_iconst (v := 1) d_Reader_term_141 (by decide) ?_
                    exact mv_iret d_Reader_term_142 rfl (by decide) ⟨_, I238, _, rfl, by decide, by decide, fun _ => q241⟩
                · refine mv_iconst (v := 0) d_Reader_term_122 (by decide) ?_
                  exact mv_iret d_Reader_term_123 rfl (by decide) ⟨_, I214, _, rfl, by decide, by decide, fun h => absurd h (by decide)⟩
              · refine mv_aload_n d_Reader_term_105 rfl rfl ?_
                refine mv_iconst (v := 1) d_Reader_term_106 (by decide) ?_
                obtain ⟨_, b248, -⟩ := I194.1 _ _ t197
                refine mv_callV (kc' := 0) (ks' := 0) (As := [.int 1]) (st9 := [.int 1, .ref o0]) d_Reader_term_107 lV_Reader_56 b248 rfl (tc_Reader_refuse (d := (d + 7)) (x9 := x9) (o0 := o0) (x1 := 1) t197 I194.start) rfl (Nat.le_of_ble_eq_true rfl) (Nat.le_of_ble_eq_true rfl) (Nat.le_of_ble_eq_true rfl) (hst := rfl) (fun b242r M243 n244 b242 => ?_)
                obtain ⟨T245, J246, rfl⟩ := b242
                have I247 := I194.call J246 (tm_sub (by decide)) (Or.inl rfl)
                have t249 := J246.up t197
                have q250 := J246.keep t197 (by decide) q198
                exact mv_iret d_Reader_term_110 rfl (by decide) ⟨_, I247, _, rfl, by decide, by decide, fun h => absurd h (by decide)⟩
            · refine mv_iconst (v := 0) d_Reader_term_93 (by decide) ?_
              exact mv_iret d_Reader_term_94 rfl (by decide) ⟨_, I180, _, rfl, by decide, by decide, fun h => absurd h (by decide)⟩
          · refine mv_aload_n d_Reader_term_49 rfl rfl ?_
            obtain ⟨_, b257, -⟩ := I167.1 _ _ t172
            refine mv_callV (kc' := 0) (ks' := 0) (As := []) (st9 := [.ref o0]) d_Reader_term_50 lV_Reader_212 b257 rfl (tc_Reader_openBracket_q1 (d := (d + 6)) (x9 := x9) (o0 := o0) t172 (p := p) q173 (by omega) I167.start) rfl (Nat.le_of_ble_eq_true rfl) (Nat.le_of_ble_eq_true rfl) (Nat.le_of_ble_eq_true rfl) (hst := rfl) (fun b251r M252 n253 b251 => ?_)
            obtain ⟨T254, J255, v258, rfl, b259, b260, o261⟩ := b251
            have I256 := I167.call J255 (tm_sub (by decide)) (Or.inl rfl)
            have t262 := J255.up t172
            have := mz_hi v258
            refine mv_if_eqZ (tgt := 63) (a := v258.toInt) d_Reader_term_53 (by decide) rfl (fun b263 => ?_) (fun b263 => ?_)
            · refine mv_iconst (v := 0) d_Reader_term_63 (by decide) ?_
              exact mv_iret d_Reader_term_64 rfl (by decide) ⟨_, I256, _, rfl, by decide, by decide, fun h => absurd h (by decide)⟩
            · obtain ⟨b265, q264⟩ := o261 (by omega)
              have b266 : (p + 1).toInt = p.toInt + 1 := mz_addn 1 1 (by decide) (by have := mz_lo p; omega) (by have := mz_hi p; omega)
              refine mv_aload_n d_Reader_term_56 rfl rfl ?_
              obtain ⟨_, b273, -⟩ := I256.1 _ _ t262
              refine mv_callV (kc' := 0) (ks' := 0) (As := []) (st9 := [.ref o0]) d_Reader_term_57 lV_Reader_124 b273 rfl (tc_Reader_condition_q0 (d := d) (x9 := x9) (o0 := o0) t262 (p := (p + 1)) q264 (by omega) I256.start) rfl (Nat.le_of_ble_eq_true rfl) (Nat.le_of_ble_eq_true rfl) (Nat.le_of_ble_eq_true rfl) (hst := rfl) (fun b267r M268 n269 b267 => ?_)
              obtain ⟨T270, J271, v274, rfl, b275, b276, o277⟩ := b267
              have I272 := I256.call J271 (tm_sub (by decide)) (Or.inl rfl)
              have t278 := J271.up t262
              have := mz_hi v274
              refine mv_if_neZ (tgt := 65) (a := v274.toInt) d_Reader_term_60 (by decide) rfl (fun b279 => ?_) (fun b279 => ?_)
              · have q280 := o277 (by omega)
                refine mv_aload_n d_Reader_term_65 rfl rfl ?_
                refine mv_dup d_Reader_term_66 rfl ?_
                refine tr_getK (k := 16) q280 d_Reader_term_67 f_Reader_73_9 ?_
                refine mv_iconst (v := 1) d_Reader_term_70 (by decide) ?_
                refine mv_isubv (v := p) d_Reader_term_71 (Int32.add_sub_cancel _ _) ?_
                refine tr_putK tm_okF I272 t278 (k := 16) rfl ⟨_, rfl⟩ (Or.inl (by decide)) d_Reader_term_72 p_Reader_73_9 rfl rfl (fun M281 I282 q283 K284 => ?_)
                refine mv_aload_n d_Reader_term_75 rfl rfl ?_
                refine mv_bipush (v := 93) d_Reader_term_76 (by decide) ?_
                obtain ⟨_, b291, -⟩ := I282.1 _ _ t278
                refine mv_callV (kc' := 0) (ks' := 0) (As := [.int 93]) (st9 := [.int 93, .ref o0]) d_Reader_term_78 lV_Reader_63 b291 rfl (tc_Reader_sign (d := (d + 6)) (x9 := x9) (o0 := o0) (x1 := 93) t278 I282.start) rfl (Nat.le_of_ble_eq_true rfl) (Nat.le_of_ble_eq_true rfl) (Nat.le_of_ble_eq_true rfl) (hst := rfl) (fun b285r M286 n287 b285 => ?_)
                obtain ⟨T288, J289, v292, rfl, b293, b294⟩ := b285
                have I290 := I282.call J289 (tm_sub (by decide)) (Or.inl rfl)
                have t295 := J289.up t278
                have q296 := J289.keep t278 (by decide) q283
                have := mz_hi v292
                refine mv_if_neZ (tgt := 130) (a := v292.toInt) d_Reader_term_81 (by decide) rfl (fun b297 => ?_) (fun b297 => ?_)
                · refine mv_iload_n d_Reader_term_130 rfl rfl ?_
                  have := mz_hi i1_1
                  refine mv_if_eqZ (tgt := 141) (a := i1_1.toInt) d_Reader_term_131 (by decide) rfl (fun b298 => ?_) (fun b298 => ?_)
                  · refine mv_iconst (v := 1) d_Reader_term_141 (by decide) ?_
                    exact mv_iret d_Reader_term_142 rfl (by decide) ⟨_, I290, _, rfl, by decide, by decide, fun _ => q296⟩
                  · refine mv_aload_n d_Reader_term_134 rfl rfl ?_
                    refine mv_bipush (v := 8) d_Reader_term_135 (by decide) ?_
                    refine mv_iconst (v := 0) d_Reader_term_137 (by decide) ?_
                    obtain ⟨_, b305, -⟩ := I290.1 _ _ t295
                    refine mv_callV (kc' := 0) (ks' := 0) (As := [.int 8, .int 0]) (st9 := [.int 0, .int 8, .ref o0]) d_Reader_term_138 lV_Reader_203 b305 rfl (tc_Reader_emit (d := (d + 7)) (x9 := x9) (o0 := o0) (x1 := 8) (x2 := 0) t295 I290.start) rfl (Nat.le_of_ble_eq_true rfl) (Nat.le_of_ble_eq_true rfl) (Nat.le_of_ble_eq_true rfl) (hst := rfl) (fun b299r M300 n301 b299 => ?_)
                    obtain ⟨T302, J303, rfl⟩ := b299
                    have I304 := I290.call J303 (tm_sub (by decide)) (Or.inl rfl)
                    have t306 := J303.up t295
                    have q307 := J303.keep t295 (by decide) q296
                    refine mv_iconst (v := 1) d_Reader_term_141 (by decide) ?_
                    exact mv_iret d_Reader_term_142 rfl (by decide) ⟨_, I304, _, rfl, by decide, by decide, fun _ => q307⟩
                · refine mv_iconst (v := 0) d_Reader_term_84 (by decide) ?_
                  exact mv_iret d_Reader_term_85 rfl (by decide) ⟨_, I290, _, rfl, by decide, by decide, fun h => absurd h (by decide)⟩
              · refine mv_iconst (v := 0) d_Reader_term_63 (by decide) ?_
                exact mv_iret d_Reader_term_64 rfl (by decide) ⟨_, I272, _, rfl, by decide, by decide, fun h => absurd h (by decide)⟩
        · refine mv_aload_n d_Reader_term_20 rfl rfl ?_
          obtain ⟨_, b314, -⟩ := I154.1 _ _ t159
          refine mv_callV (kc' := 0) (ks' := 0) (As := []) (st9 := [.ref o0]) d_Reader_term_21 lV_Reader_82 b314 rfl (tc_Reader_advance (d := (d + 7)) (x9 := x9) (o0 := o0) t159 I154.start) rfl (Nat.le_of_ble_eq_true rfl) (Nat.le_of_ble_eq_true rfl) (Nat.le_of_ble_eq_true rfl) (hst := rfl) (fun b308r M309 n310 b308 => ?_)
          obtain ⟨T311, J312, rfl⟩ := b308
          have I313 := I154.call J312 (tm_sub (by decide)) (Or.inl rfl)
          have t315 := J312.up t159
          have q316 := J312.keep t159 (by decide) q160
          refine mv_iload_n d_Reader_term_24 rfl rfl ?_
          have := mz_hi i1_1
          refine mv_if_neZ (tgt := 32) (a := i1_1.toInt) d_Reader_term_25 (by decide) rfl (fun b317 => ?_) (fun b317 => ?_)
          · refine mv_iconst (v := 0) d_Reader_term_32 (by decide) ?_
            refine mv_istore_n (lv' := [(1, .int 0), (2, .int i2_1), (0, .ref o0)]) d_Reader_term_33 rfl (by decide) rfl ?_
            refine mv_iinc (v := (i2_1 + 1)) (lv' := [(2, .int (i2_1 + 1)), (1, .int 0), (0, .ref o0)]) d_Reader_term_34 rfl rfl (by decide) rfl ?_
            refine mv_goto (tgt := 4) d_Reader_term_37 (by decide) ?_
            have b318 : (i2_1 + 1).toInt = i2_1.toInt + 1 := mz_addn 1 1 (by decide) (by have := mz_lo i2_1; omega) (by have := mz_hi i2_1; omega)
            exact (ih1 (i2_1 + 1) 0 T311 M309 n310 I313 t315 (by first | omega | decide) q316 (by omega))
          · refine mv_iconst (v := 1) d_Reader_term_28 (by decide) ?_
            refine mv_goto (tgt := 33) d_Reader_term_29 (by decide) ?_
            refine mv_istore_n (lv' := [(1, .int 1), (2, .int i2_1), (0, .ref o0)]) d_Reader_term_33 rfl (by decide) rfl ?_
            refine mv_iinc (v := (i2_1 + 1)) (lv' := [(2, .int (i2_1 + 1)), (1, .int 1), (0, .ref o0)]) d_Reader_term_34 rfl rfl (by decide) rfl ?_
            refine mv_goto (tgt := 4) d_Reader_term_37 (by decide) ?_
            have b319 : (i2_1 + 1).toInt = i2_1.toInt + 1 := mz_addn 1 1 (by decide) (by have := mz_lo i2_1; omega) (by have := mz_hi i2_1; omega)
            exact (ih1 (i2_1 + 1) 1 T311 M309 n310 I313 t315 (by first | omega | decide) q316 (by omega))
  exact mv_less (Nat.zero_le _) (Nat.zero_le _) (L4_1 4294967296 0 0 T0 M0 n0 I0 h_o0 (by first | omega | decide) hO (by show (2147483647 - (0 : Int) : Int) < _; decide))
def w_Reader_both_q1 : List Nat := [901, 902, 909, 910, 911, 912, 913, 914, 916, 918, 967]
theorem tc_Reader_both_q1 {g : mj_G} {l : Launch} {d : Nat} {T0 : tm_H} {M0 : mj_M} {n0 x9 : Nat} {o0 : Nat} (h_o0 : T0 o0 = some (0, 9, 0)) {p : Int32} (hO : tm_at M0 o0 9 16 (.int p)) (hp : 3 ≤ p.toInt) (I0 : tm_I tm_FT (tm_in w_Reader_both_q1) x9 T0 M0 n0 T0 M0 n0) : mj_Met g l kY_Reader_both (d + 9) [.ref o0] M0 n0 0 0 (tm_Q tm_FT (tm_in w_Reader_both_q1) x9 T0 M0 n0 (fun r _ M => ∃ v : Int32, r = some (.int v) ∧ 0 ≤ v.toInt ∧ v.toInt ≤ 1 ∧ (v.toInt = 1 → tm_at M o0 9 16 (.int p)))) := by
  refine mj_enter (by decide) (Nat.le_of_ble_eq_true rfl) ?_
  refine mv_aload_n d_Reader_both_0 rfl rfl ?_
  obtain ⟨_, b7, -⟩ := I0.1 _ _ h_o0
  refine mv_callV (kc' := 0) (ks' := 0) (As := []) (st9 := [.ref o0]) d_Reader_both_1 lV_Reader_206 b7 rfl (tc_Reader_term_q1 (d := d) (x9 := x9) (o0 := o0) h_o0 (p := p) hO (by omega) I0.start) rfl (Nat.le_of_ble_eq_true rfl) (Nat.le_of_ble_eq_true rfl) (Nat.le_of_ble_eq_true rfl) (hst := rfl) (fun b1r M2 n3 b1 => ?_)
  obtain ⟨T4, J5, v8, rfl, b9, b10, o11⟩ := b1
  have I6 := I0.call J5 (tm_sub (by decide)) (Or.inl rfl)
  have t12 := J5.up h_o0
  have := mz_hi v8
  refine mv_if_neZ (tgt := 9) (a := v8.toInt) d_Reader_both_4 (by decide) rfl (fun b13 => ?_) (fun b13 => ?_)
  · have q14 := o11 (by omega)
    refine mv_iconst (v := 0) d_Reader_both_9 (by decide) ?_
    refine mv_istore_n (lv' := [(1, .int 0), (0, .ref o0)]) d_Reader_both_10 rfl (by decide) rfl ?_
    have L11_15 : ∀ (k : Nat) (i1_15 : Int32) (T_15 : tm_H) (M_15 : mj_M) (n_15 : Nat), tm_I tm_FT (tm_in w_Reader_both_q1) x9 T0 M0 n0 T_15 M_15 n_15 → T_15 o0 = some (0, 9, 0) → 0 ≤ i1_15.toInt → tm_at M_15 o0 9 16 (.int p) → 2147483647 - i1_15.toInt < (k : Int) → mj_V g l kY_Reader_both (d + 9) 11 [(1, .int i1_15), (0, .ref o0)] [] M_15 n_15 0 0 (tm_Q tm_FT (tm_in w_Reader_both_q1) x9 T0 M0 n0 (fun r _ M => ∃ v : Int32, r = some (.int v) ∧ 0 ≤ v.toInt ∧ v.toInt ≤ 1 ∧ (v.toInt = 1 → tm_at M o0 9 16 (.int p)))) := by
      intro k15
      induction k15 with
      | zero =>
        intro i1_15 T_15 M_15 n_15 I_15 h_q0_15 iv0_15 kp0_15 hk15
        have := mz_hi i1_15
        omega
      | succ k15 ih15 =>
        intro i1_15 T_15 M_15 n_15 I_15 h_q0_15 iv0_15 kp0_15 hk15
        refine mv_iload_n d_Reader_both_11 rfl rfl ?_
        refine mv_sipush (v := 400) d_Reader_both_12 (by decide) ?_
        have := mz_hi i1_15
        refine mv_icmp_geZ (tgt := 53) (a := i1_15.toInt) (b := 400) d_Reader_both_15 (by decide) rfl (by decide) (fun b16 => ?_) (fun b16 => ?_)
        · refine mv_iconst (v := 1) d_Reader_both_53 (by decide) ?_
          exact mv_iret d_Reader_both_54 rfl (by decide) ⟨_, I_15, _, rfl, by decide, by decide, fun _ => kp0_15⟩
        · refine mv_aload_n d_Reader_both_18 rfl rfl ?_
          refine mv_bipush (v := 31) d_Reader_both_19 (by decide) ?_
          obtain ⟨_, b23, -⟩ := I_15.1 _ _ h_q0_15
          refine mv_callV (kc' := 0) (ks' := 0) (As := [.int 31]) (st9 := [.int 31, .ref o0]) d_Reader_both_21 lV_Reader_52 b23 rfl (tc_Reader_isWord (d := (d + 8)) (x9 := x9) (o0 := o0) (x1 := 31) h_q0_15 I_15.start) rfl (Nat.le_of_ble_eq_true rfl) (Nat.le_of_ble_eq_true rfl) (Nat.le_of_ble_eq_true rfl) (hst := rfl) (fun b17r M18 n19 b17 => ?_)
          obtain ⟨T20, J21, v24, rfl, b25, b26⟩ := b17
          have I22 := I_15.call J21 (tm_sub (by decide)) (Or.inl rfl)
          have t27 := J21.up h_q0_15
          have q28 := J21.keep h_q0_15 (by decide) kp0_15
          have := mz_hi v24
          refine mv_if_eqZ (tgt := 53) (a := v24.toInt) d_Reader_both_24 (by decide) rfl (fun b29 => ?_) (fun b29 => ?_)
          · refine mv_iconst (v := 1) d_Reader_both_53 (by decide) ?_
            exact mv_iret d_Reader_both_54 rfl (by decide) ⟨_, I22, _, rfl, by decide, by decide, fun _ => q28⟩
          · refine mv_aload_n d_Reader_both_27 rfl rfl ?_
            obtain ⟨_, b36, -⟩ := I22.1 _ _ t27
            refine mv_callV (kc' := 0) (ks' := 0) (As := []) (st9 := [.ref o0]) d_Reader_both_28 lV_Reader_82 b36 rfl (tc_Reader_advance (d := (d + 8)) (x9 := x9) (o0 := o0) t27 I22.start) rfl (Nat.le_of_ble_eq_true rfl) (Nat.le_of_ble_eq_true rfl) (Nat.le_of_ble_eq_true rfl) (hst := rfl) (fun b30r M31 n32 b30 => ?_)
            obtain ⟨T33, J34, rfl⟩ := b30
            have I35 := I22.call J34 (tm_sub (by decide)) (Or.inl rfl)
            have t37 := J34.up t27
            have q38 := J34.keep t27 (by decide) q28
            refine mv_aload_n d_Reader_both_31 rfl rfl ?_
            obtain ⟨_, b45, -⟩ := I35.1 _ _ t37
            refine mv_callV (kc' := 0) (ks' := 0) (As := []) (st9 := [.ref o0]) d_Reader_both_32 lV_Reader_206 b45 rfl (tc_Reader_term_q1 (d := d) (x9 := x9) (o0 := o0) t37 (p := p) q38 (by omega) I35.start) rfl (Nat.le_of_ble_eq_true rfl) (Nat.le_of_ble_eq_true rfl) (Nat.le_of_ble_eq_true rfl) (hst := rfl) (fun b39r M40 n41 b39 => ?_)
            obtain ⟨T42, J43, v46, rfl, b47, b48, o49⟩ := b39
            have I44 := I35.call J43 (tm_sub (by decide)) (Or.inl rfl)
            have t50 := J43.up t37
            have := mz_hi v46
            refine mv_if_neZ (tgt := 40) (a := v46.toInt) d_Reader_both_35 (by decide) rfl (fun b51 => ?_) (fun b51 => ?_)
            · have q52 := o49 (by omega)
              refine mv_aload_n d_Reader_both_40 rfl rfl ?_
              refine mv_bipush (v := 9) d_Reader_both_41 (by decide) ?_
              refine mv_iconst (v := 0) d_Reader_both_43 (by decide) ?_
              obtain ⟨_, b59, -⟩ := I44.1 _ _ t50
              refine mv_callV (kc' := 0) (ks' := 0) (As := [.int 9, .int 0]) (st9 := [.int 0, .int 9, .ref o0]) d_Reader_both_44 lV_Reader_203 b59 rfl (tc_Reader_emit (d := (d + 8)) (x9 := x9) (o0 := o0) (x1 := 9) (x2 := 0) t50 I44.start) rfl (Nat.le_of_ble_eq_true rfl) (Nat.le_of_ble_eq_true rfl) (Nat.le_of_ble_eq_true rfl) (hst := rfl) (fun b53r M54 n55 b53 => ?_)
              obtain ⟨T56, J57, rfl⟩ := b53
              have I58 := I44.call J57 (tm_sub (by decide)) (Or.inl rfl)
              have t60 := J57.up t50
              have q61 := J57.keep t50 (by decide) q52
              refine mv_iinc (v := (i1_15 + 1)) (lv' := [(1, .int (i1_15 + 1)), (0, .ref o0)]) d_Reader_both_47 rfl rfl (by decide) rfl ?_
              refine mv_goto (tgt := 11) d_Reader_both_50 (by decide) ?_
              have b62 : (i1_15 + 1).toInt = i1_15.toInt + 1 := mz_addn 1 1 (by decide) (by have := mz_lo i1_15; omega) (by have := mz_hi i1_15; omega)
              exact (ih15 (i1_15 + 1) T56 M54 n55 I58 t60 (by first | omega | decide) q61 (by omega))
            · refine mv_iconst (v := 0) d_Reader_both_38 (by decide) ?_
              exact mv_iret d_Reader_both_39 rfl (by decide) ⟨_, I44, _, rfl, by decide, by decide, fun h => absurd h (by decide)⟩
    exact mv_less (Nat.zero_le _) (Nat.zero_le _) (L11_15 4294967296 0 T4 M2 n3 I6 t12 (by first | omega | decide) q14 (by show (2147483647 - (0 : Int) : Int) < _; decide))
  · refine mv_iconst (v := 0) d_Reader_both_7 (by decide) ?_
    exact mv_iret d_Reader_both_8 rfl (by decide) ⟨_, I6, _, rfl, by decide, by decide, fun h => absurd h (by decide)⟩
def w_Reader_condition_q1 : List Nat := [901, 902, 909, 910, 911, 912, 913, 914, 916, 918, 967]
theorem tc_Reader_condition_q1 {g : mj_G} {l : Launch} {d : Nat} {T0 : tm_H} {M0 : mj_M} {n0 x9 : Nat} {o0 : Nat} (h_o0 : T0 o0 = some (0, 9, 0)) {p : Int32} (hO : tm_at M0 o0 9 16 (.int p)) (hp : 3 ≤ p.toInt) (I0 : tm_I tm_FT (tm_in w_Reader_condition_q1) x9 T0 M0 n0 T0 M0 n0) : mj_Met g l kY_Reader_condition (d + 10) [.ref o0] M0 n0 0 0 (tm_Q tm_FT (tm_in w_Reader_condition_q1) x9 T0 M0 n0 (fun r _ M => ∃ v : Int32, r = some (.int v) ∧ 0 ≤ v.toInt ∧ v.toInt ≤ 1 ∧ (v.toInt = 1 → tm_at M o0 9 16 (.int p)))) := by
  refine mj_enter (by decide) (Nat.le_of_ble_eq_true rfl) ?_
  refine mv_aload_n d_Reader_condition_0 rfl rfl ?_
  obtain ⟨_, b7, -⟩ := I0.1 _ _ h_o0
  refine mv_callV (kc' := 0) (ks' := 0) (As := []) (st9 := [.ref o0]) d_Reader_condition_1 lV_Reader_198 b7 rfl (tc_Reader_both_q1 (d := d) (x9 := x9) (o0 := o0) h_o0 (p := p) hO (by omega) I0.start) rfl (Nat.le_of_ble_eq_true rfl) (Nat.le_of_ble_eq_true rfl) (Nat.le_of_ble_eq_true rfl) (hst := rfl) (fun b1r M2 n3 b1 => ?_)
  obtain ⟨T4, J5, v8, rfl, b9, b10, o11⟩ := b1
  have I6 := I0.call J5 (tm_sub (by decide)) (Or.inl rfl)
  have t12 := J5.up h_o0
  have := mz_hi v8
  refine mv_if_neZ (tgt := 9) (a := v8.toInt) d_Reader_condition_4 (by decide) rfl (fun b13 => ?_) (fun b13 => ?_)
  · have q14 := o11 (by omega)
    refine mv_iconst (v := 0) d_Reader_condition_9 (by decide) ?_
    refine mv_istore_n (lv' := [(1, .int 0), (0, .ref o0)]) d_Reader_condition_10 rfl (by decide) rfl ?_
    have L11_15 : ∀ (k : Nat) (i1_15 : Int32) (T_15 : tm_H) (M_15 : mj_M) (n_15 : Nat), tm_I tm_FT (tm_in w_Reader_condition_q1) x9 T0 M0 n0 T_15 M_15 n_15 → T_15 o0 = some (0, 9, 0) → 0 ≤ i1_15.toInt → tm_at M_15 o0 9 16 (.int p) → 2147483647 - i1_15.toInt < (k : Int) → mj_V g l kY_Reader_condition (d + 10) 11 [(1, .int i1_15), (0, .ref o0)] [] M_15 n_15 0 0 (tm_Q tm_FT (tm_in w_Reader_condition_q1) x9 T0 M0 n0 (fun r _ M => ∃ v : Int32, r = some (.int v) ∧ 0 ≤ v.toInt ∧ v.toInt ≤ 1 ∧ (v.toInt = 1 → tm_at M o0 9 16 (.int p)))) := by
      intro k15
      induction k15 with
      | zero =>
        intro i1_15 T_15 M_15 n_15 I_15 h_q0_15 iv0_15 kp0_15 hk15
        have := mz_hi i1_15
        omega
      | succ k15 ih15 =>
        intro i1_15 T_15 M_15 n_15 I_15 h_q0_15 iv0_15 kp0_15 hk15
        refine mv_iload_n d_Reader_condition_11 rfl rfl ?_
        refine mv_sipush (v := 400) d_Reader_condition_12 (by decide) ?_
        have := mz_hi i1_15
        refine mv_icmp_geZ (tgt := 53) (a := i1_15.toInt) (b := 400) d_Reader_condition_15 (by decide) rfl (by decide) (fun b16 => ?_) (fun b16 => ?_)
        · refine mv_iconst (v := 1) d_Reader_condition_53 (by decide) ?_
          exact mv_iret d_Reader_condition_54 rfl (by decide) ⟨_, I_15, _, rfl, by decide, by decide, fun _ => kp0_15⟩
        · refine mv_aload_n d_Reader_condition_18 rfl rfl ?_
          refine mv_bipush (v := 32) d_Reader_condition_19 (by decide) ?_
          obtain ⟨_, b23, -⟩ := I_15.1 _ _ h_q0_15
          refine mv_callV (kc' := 0) (ks' := 0) (As := [.int 32]) (st9 := [.int 32, .ref o0]) d_Reader_condition_21 lV_Reader_52 b23 rfl (tc_Reader_isWord (d := (d + 9)) (x9 := x9) (o0 := o0) (x1 := 32) h_q0_15 I_15.start) rfl (Nat.le_of_ble_eq_true rfl) (Nat.le_of_ble_eq_true rfl) (Nat.le_of_ble_eq_true rfl) (hst := rfl) (fun b17r M18 n19 b17 => ?_)
          obtain ⟨T20, J21, v24, rfl, b25, b26⟩ := b17
          have I22 := I_15.call J21 (tm_sub (by decide)) (Or.inl rfl)
          have t27 := J21.up h_q0_15
          have q28 := J21.keep h_q0_15 (by decide) kp0_15
          have := mz_hi v24
          refine mv_if_eqZ (tgt := 53) (a := v24.toInt) d_Reader_condition_24 (by decide) rfl (fun b29 => ?_) (fun b29 => ?_)
          · refine mv_iconst (v := 1) d_Reader_condition_53 (by decide) ?_
            exact mv_iret d_Reader_condition_54 rfl (by decide) ⟨_, I22, _, rfl, by decide, by decide, fun _ => q28⟩
          · refine mv_aload_n d_Reader_condition_27 rfl rfl ?_
            obtain ⟨_, b36, -⟩ := I22.1 _ _ t27
            refine mv_callV (kc' := 0) (ks' := 0) (As := []) (st9 := [.ref o0]) d_Reader_condition_28 lV_Reader_82 b36 rfl (tc_Reader_advance (d := (d + 9)) (x9 := x9) (o0 := o0) t27 I22.start) rfl (Nat.le_of_ble_eq_true rfl) (Nat.le_of_ble_eq_true rfl) (Nat.le_of_ble_eq_true rfl) (hst := rfl) (fun b30r M31 n32 b30 => ?_)
            obtain ⟨T33, J34, rfl⟩ := b30
            have I35 := I22.call J34 (tm_sub (by decide)) (Or.inl rfl)
            have t37 := J34.up t27
            have q38 := J34.keep t27 (by decide) q28
            refine mv_aload_n d_Reader_condition_31 rfl rfl ?_
            obtain ⟨_, b45, -⟩ := I35.1 _ _ t37
            refine mv_callV (kc' := 0) (ks' := 0) (As := []) (st9 := [.ref o0]) d_Reader_condition_32 lV_Reader_198 b45 rfl (tc_Reader_both_q1 (d := d) (x9 := x9) (o0 := o0) t37 (p := p) q38 (by omega) I35.start) rfl (Nat.le_of_ble_eq_true rfl) (Nat.le_of_ble_eq_true rfl) (Nat.le_of_ble_eq_true rfl) (hst := rfl) (fun b39r M40 n41 b39 => ?_)
            obtain ⟨T42, J43, v46, rfl, b47, b48, o49⟩ := b39
            have I44 := I35.call J43 (tm_sub (by decide)) (Or.inl rfl)
            have t50 := J43.up t37
            have := mz_hi v46
            refine mv_if_neZ (tgt := 40) (a := v46.toInt) d_Reader_condition_35 (by decide) rfl (fun b51 => ?_) (fun b51 => ?_)
            · have q52 := o49 (by omega)
              refine mv_aload_n d_Reader_condition_40 rfl rfl ?_
              refine mv_bipush (v := 10) d_Reader_condition_41 (by decide) ?_
              refine mv_iconst (v := 0) d_Reader_condition_43 (by decide) ?_
              obtain ⟨_, b59, -⟩ := I44.1 _ _ t50
              refine mv_callV (kc' := 0) (ks' := 0) (As := [.int 10, .int 0]) (st9 := [.int 0, .int 10, .ref o0]) d_Reader_condition_44 lV_Reader_203 b59 rfl (tc_Reader_emit (d := (d + 9)) (x9 := x9) (o0 := o0) (x1 := 10) (x2 := 0) t50 I44.start) rfl (Nat.le_of_ble_eq_true rfl) (Nat.le_of_ble_eq_true rfl) (Nat.le_of_ble_eq_true rfl) (hst := rfl) (fun b53r M54 n55 b53 => ?_)
              obtain ⟨T56, J57, rfl⟩ := b53
              have I58 := I44.call J57 (tm_sub (by decide)) (Or.inl rfl)
              have t60 := J57.up t50
              have q61 := J57.keep t50 (by decide) q52
              refine mv_iinc (v := (i1_15 + 1)) (lv' := [(1, .int (i1_15 + 1)), (0, .ref o0)]) d_Reader_condition_47 rfl rfl (by decide) rfl ?_
              refine mv_goto (tgt := 11) d_Reader_condition_50 (by decide) ?_
              have b62 : (i1_15 + 1).toInt = i1_15.toInt + 1 := mz_addn 1 1 (by decide) (by have := mz_lo i1_15; omega) (by have := mz_hi i1_15; omega)
              exact (ih15 (i1_15 + 1) T56 M54 n55 I58 t60 (by first | omega | decide) q61 (by omega))
            · refine mv_iconst (v := 0) d_Reader_condition_38 (by decide) ?_
              exact mv_iret d_Reader_condition_39 rfl (by decide) ⟨_, I44, _, rfl, by decide, by decide, fun h => absurd h (by decide)⟩
    exact mv_less (Nat.zero_le _) (Nat.zero_le _) (L11_15 4294967296 0 T4 M2 n3 I6 t12 (by first | omega | decide) q14 (by show (2147483647 - (0 : Int) : Int) < _; decide))
  · refine mv_iconst (v := 0) d_Reader_condition_7 (by decide) ?_
    exact mv_iret d_Reader_condition_8 rfl (by decide) ⟨_, I6, _, rfl, by decide, by decide, fun h => absurd h (by decide)⟩
def w_Reader_term_q2 : List Nat := [901, 902, 909, 910, 911, 912, 913, 914, 916, 918, 967]
theorem tc_Reader_term_q2 {g : mj_G} {l : Launch} {d : Nat} {T0 : tm_H} {M0 : mj_M} {n0 x9 : Nat} {o0 : Nat} (h_o0 : T0 o0 = some (0, 9, 0)) {p : Int32} (hO : tm_at M0 o0 9 16 (.int p)) (hp : 2 ≤ p.toInt) (I0 : tm_I tm_FT (tm_in w_Reader_term_q2) x9 T0 M0 n0 T0 M0 n0) : mj_Met g l kY_Reader_term (d + 11) [.ref o0] M0 n0 0 0 (tm_Q tm_FT (tm_in w_Reader_term_q2) x9 T0 M0 n0 (fun r _ M => ∃ v : Int32, r = some (.int v) ∧ 0 ≤ v.toInt ∧ v.toInt ≤ 1 ∧ (v.toInt = 1 → tm_at M o0 9 16 (.int p)))) := by
  refine mj_enter (by decide) (Nat.le_of_ble_eq_true rfl) ?_
  refine mv_iconst (v := 0) d_Reader_term_0 (by decide) ?_
  refine mv_istore_n (lv' := [(1, .int 0), (0, .ref o0)]) d_Reader_term_1 rfl (by decide) rfl ?_
  refine mv_iconst (v := 0) d_Reader_term_2 (by decide) ?_
  refine mv_istore_n (lv' := [(2, .int 0), (1, .int 0), (0, .ref o0)]) d_Reader_term_3 rfl (by decide) rfl ?_
  have L4_1 : ∀ (k : Nat) (i2_1 : Int32) (i1_1 : Int32) (T_1 : tm_H) (M_1 : mj_M) (n_1 : Nat), tm_I tm_FT (tm_in w_Reader_term_q2) x9 T0 M0 n0 T_1 M_1 n_1 → T_1 o0 = some (0, 9, 0) → 0 ≤ i2_1.toInt → tm_at M_1 o0 9 16 (.int p) → 2147483647 - i2_1.toInt < (k : Int) → mj_V g l kY_Reader_term (d + 11) 4 [(2, .int i2_1), (1, .int i1_1), (0, .ref o0)] [] M_1 n_1 0 0 (tm_Q tm_FT (tm_in w_Reader_term_q2) x9 T0 M0 n0 (fun r _ M => ∃ v : Int32, r = some (.int v) ∧ 0 ≤ v.toInt ∧ v.toInt ≤ 1 ∧ (v.toInt = 1 → tm_at M o0 9 16 (.int p)))) := by
    intro k1
    induction k1 with
    | zero =>
      intro i2_1 i1_1 T_1 M_1 n_1 I_1 h_q0_1 iv0_1 kp0_1 hk1
      have := mz_hi i2_1
      omega
    | succ k1 ih1 =>
      intro i2_1 i1_1 T_1 M_1 n_1 I_1 h_q0_1 iv0_1 kp0_1 hk1
      refine mv_iload_n d_Reader_term_4 rfl rfl ?_
      refine mv_sipush (v := 400) d_Reader_term_5 (by decide) ?_
      have := mz_hi i2_1
      refine mv_icmp_geZ (tgt := 40) (a := i2_1.toInt) (b := 400) d_Reader_term_8 (by decide) rfl (by decide) (fun b2 => ?_) (fun b2 => ?_)
      · refine mv_aload_n d_Reader_term_40 rfl rfl ?_
        refine mv_bipush (v := 91) d_Reader_term_41 (by decide) ?_
        obtain ⟨_, b9, -⟩ := I_1.1 _ _ h_q0_1
        refine mv_callV (kc' := 0) (ks' := 0) (As := [.int 91]) (st9 := [.int 91, .ref o0]) d_Reader_term_43 lV_Reader_209 b9 rfl (tc_Reader_isSign (d := (d + 10)) (x9 := x9) (o0 := o0) (x1 := 91) h_q0_1 I_1.start) rfl (Nat.le_of_ble_eq_true rfl) (Nat.le_of_ble_eq_true rfl) (Nat.le_of_ble_eq_true rfl) (hst := rfl) (fun b3r M4 n5 b3 => ?_)
        obtain ⟨T6, J7, v10, rfl, b11, b12⟩ := b3
        have I8 := I_1.call J7 (tm_sub (by decide)) (Or.inl rfl)
        have t13 := J7.up h_q0_1
        have q14 := J7.keep h_q0_1 (by decide) kp0_1
        have := mz_hi v10
        refine mv_if_eqZ (tgt := 86) (a := v10.toInt) d_Reader_term_46 (by decide) rfl (fun b15 => ?_) (fun b15 => ?_)
        · refine mv_aload_n d_Reader_term_86 rfl rfl ?_
          obtain ⟨_, b22, -⟩ := I8.1 _ _ t13
          refine mv_callV (kc' := 0) (ks' := 0) (As := []) (st9 := [.ref o0]) d_Reader_term_87 lV_Reader_186 b22 rfl (tc_Reader_sum_q2 (d := d) (x9 := x9) (o0 := o0) t13 (p := p) q14 (by omega) I8.start) rfl (Nat.le_of_ble_eq_true rfl) (Nat.le_of_ble_eq_true rfl) (Nat.le_of_ble_eq_true rfl) (hst := rfl) (fun b16r M17 n18 b16 => ?_)
          obtain ⟨T19, J20, v23, rfl, b24, b25, o26⟩ := b16
          have I21 := I8.call J20 (tm_sub (by decide)) (Or.inl rfl)
          have t27 := J20.up t13
          have := mz_hi v23
          refine mv_if_neZ (tgt := 95) (a := v23.toInt) d_Reader_term_90 (by decide) rfl (fun b28 => ?_) (fun b28 => ?_)
          · have q29 := o26 (by omega)
            refine mv_aload_n d_Reader_term_95 rfl rfl ?_
            obtain ⟨_, b36, -⟩ := I21.1 _ _ t27
            refine mv_callV (kc' := 0) (ks' := 0) (As := []) (st9 := [.ref o0]) d_Reader_term_96 lV_Reader_215 b36 rfl (tc_Reader_comparisonHere (d := (d + 9)) (x9 := x9) (o0 := o0) t27 I21.start) rfl (Nat.le_of_ble_eq_true rfl) (Nat.le_of_ble_eq_true rfl) (Nat.le_of_ble_eq_true rfl) (hst := rfl) (fun b30r M31 n32 b30 => ?_)
            obtain ⟨T33, J34, v37, rfl⟩ := b30
            have I35 := I21.call J34 (tm_sub (by decide)) (Or.inl rfl)
            have t38 := J34.up t27
            have q39 := J34.keep t27 (by decide) q29
            refine mv_istore_n (lv' := [(2, .int v37), (1, .int i1_1), (0, .ref o0)]) d_Reader_term_99 rfl (by decide) rfl ?_
            refine mv_iload_n d_Reader_term_100 rfl rfl ?_
            refine mv_iconst (v := (-1)) d_Reader_term_101 (by decide) ?_
            have := mz_hi v37
            refine mv_icmp_neZ (tgt := 111) (a := v37.toInt) (b := (-1)) d_Reader_term_102 (by decide) rfl (by decide) (fun b40 => ?_) (fun b40 => ?_)
            · refine mv_aload_n d_Reader_term_111 rfl rfl ?_
              obtain ⟨_, b47, -⟩ := I35.1 _ _ t38
              refine mv_callV (kc' := 0) (ks' := 0) (As := []) (st9 := [.ref o0]) d_Reader_term_112 lV_Reader_82 b47 rfl (tc_Reader_advance (d := (d + 10)) (x9 := x9) (o0 := o0) t38 I35.start) rfl (Nat.le_of_ble_eq_true rfl) (Nat.le_of_ble_eq_true rfl) (Nat.le_of_ble_eq_true rfl) (hst := rfl) (fun b41r M42 n43 b41 => ?_)
              obtain ⟨T44, J45, rfl⟩ := b41
              have I46 := I35.call J45 (tm_sub (by decide)) (Or.inl rfl)
              have t48 := J45.up t38
              have q49 := J45.keep t38 (by decide) q39
              refine mv_aload_n d_Reader_term_115 rfl rfl ?_
              obtain ⟨_, b56, -⟩ := I46.1 _ _ t48
              refine mv_callV (kc' := 0) (ks' := 0) (As := []) (st9 := [.ref o0]) d_Reader_term_116 lV_Reader_186 b56 rfl (tc_Reader_sum_q2 (d := d) (x9 := x9) (o0 := o0) t48 (p := p) q49 (by omega) I46.start) rfl (Nat.le_of_ble_eq_true rfl) (Nat.le_of_ble_eq_true rfl) (Nat.le_of_ble_eq_true rfl) (hst := rfl) (fun b50r M51 n52 b50 => ?_)
              obtain ⟨T53, J54, v57, rfl, b58, b59, o60⟩ := b50
              have I55 := I46.call J54 (tm_sub (by decide)) (Or.inl rfl)
              have t61 := J54.up t48
              have := mz_hi v57
              refine mv_if_neZ (tgt := 124) (a := v57.toInt) d_Reader_term_119 (by decide) rfl (fun b62 => ?_) (fun b62 => ?_)
              · have q63 := o60 (by omega)
                refine mv_aload_n d_Reader_term_124 rfl rfl ?_
                refine mv_iload_n d_Reader_term_125 rfl rfl ?_
                refine mv_iconst (v := 0) d_Reader_term_126 (by decide) ?_
                obtain ⟨_, b70, -⟩ := I55.1 _ _ t61
                refine mv_callV (kc' := 0) (ks' := 0) (As := [.int v37, .int 0]) (st9 := [.int 0, .int v37, .ref o0]) d_Reader_term_127 lV_Reader_203 b70 rfl (tc_Reader_emit (d := (d + 10)) (x9 := x9) (o0 := o0) (x1 := v37) (x2 := 0) t61 I55.start) rfl (Nat.le_of_ble_eq_true rfl) (Nat.le_of_ble_eq_true rfl) (Nat.le_of_ble_eq_true rfl) (hst := rfl) (fun b64r M65 n66 b64 => ?_)
                obtain ⟨T67, J68, rfl⟩ := b64
                have I69 := I55.call J68 (tm_sub (by decide)) (Or.inl rfl)
                have t71 := J68.up t61
                have q72 := J68.keep t61 (by decide) q63
                refine mv_iload_n d_Reader_term_130 rfl rfl ?_
                have := mz_hi i1_1
                refine mv_if_eqZ (tgt := 141) (a := i1_1.toInt) d_Reader_term_131 (by decide) rfl (fun b73 => ?_) (fun b73 => ?_)
                · refine mv_iconst (v := 1) d_Reader_term_141 (by decide) ?_
                  exact mv_iret d_Reader_term_142 rfl (by decide) ⟨_, I69, _, rfl, by decide, by decide, fun _ => q72⟩
                · refine mv_aload_n d_Reader_term_134 rfl rfl ?_
                  refine mv_bipush (v := 8) d_Reader_term_135 (by decide) ?_
                  refine mv_iconst (v := 0) d_Reader_term_137 (by decide) ?_
                  obtain ⟨_, b80, -⟩ := I69.1 _ _ t71
                  refine mv_callV (kc' := 0) (ks' := 0) (As := [.int 8, .int 0]) (st9 := [.int 0, .int 8, .ref o0]) d_Reader_term_138 lV_Reader_203 b80 rfl (tc_Reader_emit (d := (d + 10)) (x9 := x9) (o0 := o0) (x1 := 8) (x2 := 0) t71 I69.start) rfl (Nat.le_of_ble_eq_true rfl) (Nat.le_of_ble_eq_true rfl) (Nat.le_of_ble_eq_true rfl) (hst := rfl) (fun b74r M75 n76 b74 => ?_)
                  obtain ⟨T77, J78, rfl⟩ := b74
                  have I79 := I69.call J78 (tm_sub (by decide)) (Or.inl rfl)
                  have t81 := J78.up t71
                  have q82 := J78.keep t71 (by decide) q72
                  refine mv_iconst (v := 1) d_Reader_term_141 (by decide) ?_
                  exact mv_iret d_Reader_term_142 rfl (by decide) ⟨_, I79, _, rfl, by decide, by decide, fun _ => q82⟩
              · refine mv_iconst (v := 0) d_Reader_term_122 (by decide) ?_
                exact mv_iret d_Reader_term_123 rfl (by decide) ⟨_, I55, _, rfl, by decide, by decide, fun h => absurd h (by decide)⟩
            · refine mv_aload_n d_Reader_term_105 rfl rfl ?_
              refine mv_iconst (v := 1) d_Reader_term_106 (by decide) ?_
              obtain ⟨_, b89, -⟩ := I35.1 _ _ t38
              refine mv_callV (kc' := 0) (ks' := 0) (As := [.int 1]) (st9 := [.int 1, .ref o0]) d_Reader_term_107 lV_Reader_56 b89 rfl (tc_Reader_refuse (d := (d + 10)) (x9 := x9) (o0 := o0) (x1 := 1) t38 I35.start) rfl (Nat.le_of_ble_eq_true rfl) (Nat.le_of_ble_eq_true rfl) (Nat.le_of_ble_eq_true rfl) (hst := rfl) (fun b83r M84 n85 b83 => ?_)
              obtain ⟨T86, J87, rfl⟩ := b83
              have I88 := I35.call J87 (tm_sub (by decide)) (Or.inl rfl)
              have t90 := J87.up t38
              have q91 := J87.keep t38 (by decide) q39
              exact mv_iret d_Reader_term_110 rfl (by decide) ⟨_, I88, _, rfl, by decide, by decide, fun h => absurd h (by decide)⟩
          · refine mv_iconst (v := 0) d_Reader_term_93 (by decide) ?_
            exact mv_iret d_Reader_term_94 rfl (by decide) ⟨_, I21, _, rfl, by decide, by decide, fun h => absurd h (by decide)⟩
        · refine mv_aload_n d_Reader_term_49 rfl rfl ?_
          obtain ⟨_, b98, -⟩ := I8.1 _ _ t13
          refine mv_callV (kc' := 0) (ks' := 0) (As := []) (st9 := [.ref o0]) d_Reader_term_50 lV_Reader_212 b98 rfl (tc_Reader_openBracket_q2 (d := (d + 9)) (x9 := x9) (o0 := o0) t13 (p := p) q14 (by omega) I8.start) rfl (Nat.le_of_ble_eq_true rfl) (Nat.le_of_ble_eq_true rfl) (Nat.le_of_ble_eq_true rfl) (hst := rfl) (fun b92r M93 n94 b92 => ?_)
          obtain ⟨T95, J96, v99, rfl, b100, b101, o102⟩ := b92
          have I97 := I8.call J96 (tm_sub (by decide)) (Or.inl rfl)
          have t103 := J96.up t13
          have := mz_hi v99
          refine mv_if_eqZ (tgt := 63) (a := v99.toInt) d_Reader_term_53 (by decide) rfl (fun b104 => ?_) (fun b104 => ?_)
          · refine mv_iconst (v := 0) d_Reader_term_63 (by decide) ?_
            exact mv_iret d_Reader_term_64 rfl (by decide) ⟨_, I97, _, rfl, by decide, by decide, fun h => absurd h (by decide)⟩
          · obtain ⟨b106, q105⟩ := o102 (by omega)
            have b107 : (p + 1).toInt = p.toInt + 1 := mz_addn 1 1 (by decide) (by have := mz_lo p; omega) (by have := mz_hi p; omega)
            refine mv_aload_n d_Reader_term_56 rfl rfl ?_
            obtain ⟨_, b114, -⟩ := I97.1 _ _ t103
            refine mv_callV (kc' := 0) (ks' := 0) (As := []) (st9 := [.ref o0]) d_Reader_term_57 lV_Reader_124 b114 rfl (tc_Reader_condition_q1 (d := d) (x9 := x9) (o0 := o0) t103 (p := (p + 1)) q105 (by omega) I97.start) rfl (Nat.le_of_ble_eq_true rfl) (Nat.le_of_ble_eq_true rfl) (Nat.le_of_ble_eq_true rfl) (hst := rfl) (fun b108r M109 n110 b108 => ?_)
            obtain ⟨T111, J112, v115, rfl, b116, b117, o118⟩ := b108
            have I113 := I97.call J112 (tm_sub (by decide)) (Or.inl rfl)
            have t119 := J112.up t103
            have := mz_hi v115
            refine mv_if_neZ (tgt := 65) (a := v115.toInt) d_Reader_term_60 (by decide) rfl (fun b120 => ?_) (fun b120 => ?_)
            · have q121 := o118 (by omega)
              refine mv_aload_n d_Reader_term_65 rfl rfl ?_
              refine mv_dup d_Reader_term_66 rfl ?_
              refine tr_getK (k := 16) q121 d_Reader_term_67 f_Reader_73_9 ?_
              refine mv_iconst (v := 1) d_Reader_term_70 (by decide) ?_
              refine mv_isubv (v := p) d_Reader_term_71 (Int32.add_sub_cancel _ _) ?_
              refine tr_putK tm_okF I113 t119 (k := 16) rfl ⟨_, rfl⟩ (Or.inl (by decide)) d_Reader_term_72 p_Reader_73_9 rfl rfl (fun M122 I123 q124 K125 => ?_)
              refine mv_aload_n d_Reader_term_75 rfl rfl ?_
              refine mv_bipush (v := 93) d_Reader_term_76 (by decide) ?_
              obtain ⟨_, b132, -⟩ := I123.1 _ _ t119
              refine mv_callV (kc' := 0) (ks' := 0) (As := [.int 93]) (st9 := [.int 93, .ref o0]) d_Reader_term_78 lV_Reader_63 b132 rfl (tc_Reader_sign (d := (d + 9)) (x9 := x9) (o0 := o0) (x1 := 93) t119 I123.start) rfl (Nat.le_of_ble_eq_true rfl) (Nat.le_of_ble_eq_true rfl) (Nat.le_of_ble_eq_true rfl) (hst := rfl) (fun b126r M127 n128 b126 => ?_)
              obtain ⟨T129, J130, v133, rfl, b134, b135⟩ := b126
              have I131 := I123.call J130 (tm_sub (by decide)) (Or.inl rfl)
              have t136 := J130.up t119
              have q137 := J130.keep t119 (by decide) q124
              have := mz_hi v133
              refine mv_if_neZ (tgt := 130) (a := v133.toInt) d_Reader_term_81 (by decide) rfl (fun b138 => ?_) (fun b138 => ?_)
              · refine mv_iload_n d_Reader_term_130 rfl rfl ?_
                have := mz_hi i1_1
                refine mv_if_eqZ (tgt := 141) (a := i1_1.toInt) d_Reader_term_131 (by decide) rfl (fun b139 => ?_) (fun b139 => ?_)
                · refine mv_iconst (v := 1) d_Reader_term_141 (by decide) ?_
                  exact mv_iret d_Reader_term_142 rfl (by decide) ⟨_, I131, _, rfl, by decide, by decide, fun _ => q137⟩
                · refine mv_aload_n d_Reader_term_134 rfl rfl ?_
                  refine mv_bipush (v := 8) d_Reader_term_135 (by decide) ?_
                  refine mv_iconst (v := 0) d_Reader_term_137 (by decide) ?_
                  obtain ⟨_, b146, -⟩ := I131.1 _ _ t136
                  refine mv_callV (kc' := 0) (ks' := 0) (As := [.int 8, .int 0]) (st9 := [.int 0, .int 8, .ref o0]) d_Reader_term_138 lV_Reader_203 b146 rfl (tc_Reader_emit (d := (d + 10)) (x9 := x9) (o0 := o0) (x1 := 8) (x2 := 0) t136 I131.start) rfl (Nat.le_of_ble_eq_true rfl) (Nat.le_of_ble_eq_true rfl) (Nat.le_of_ble_eq_true rfl) (hst := rfl) (fun b140r M141 n142 b140 => ?_)
                  obtain ⟨T143, J144, rfl⟩ := b140
                  have I145 := I131.call J144 (tm_sub (by decide)) (Or.inl rfl)
                  have t147 := J144.up t136
                  have q148 := J144.keep t136 (by decide) q137
                  refine mv_iconst (v := 1) d_Reader_term_141 (by decide) ?_
                  exact mv_iret d_Reader_term_142 rfl (by decide) ⟨_, I145, _, rfl, by decide, by decide, fun _ => q148⟩
              · refine mv_iconst (v := 0) d_Reader_term_84 (by decide) ?_
                exact mv_iret d_Reader_term_85 rfl (by decide) ⟨_, I131, _, rfl, by decide, by decide, fun h => absurd h (by decide)⟩
            · refine mv_iconst (v := 0) d_Reader_term_63 (by decide) ?_
              exact mv_iret d_Reader_term_64 rfl (by decide) ⟨_, I113, _, rfl, by decide, by decide, fun h => absurd h (by decide)⟩
      · refine mv_aload_n d_Reader_term_11 rfl rfl ?_
        refine mv_bipush (v := 30) d_Reader_term_12 (by decide) ?_
        obtain ⟨_, b155, -⟩ := I_1.1 _ _ h_q0_1
        refine mv_callV (kc' := 0) (ks' := 0) (As := [.int 30]) (st9 := [.int 30, .ref o0]) d_Reader_term_14 lV_Reader_52 b155 rfl (tc_Reader_isWord (d := (d + 10)) (x9 := x9) (o0 := o0) (x1 := 30) h_q0_1 I_1.start) rfl (Nat.le_of_ble_eq_true rfl) (Nat.le_of_ble_eq_true rfl) (Nat.le_of_ble_eq_true rfl) (hst := rfl) (fun b149r M150 n151 b149 => ?_)
        obtain ⟨T152, J153, v156, rfl, b157, b158⟩ := b149
        have I154 := I_1.call J153 (tm_sub (by decide)) (Or.inl rfl)
        have t159 := J153.up h_q0_1
        have q160 := J153.keep h_q0_1 (by decide) kp0_1
        have := mz_hi v156
        refine mv_if_eqZ (tgt := 40) (a := v156.toInt) d_Reader_term_17 (by decide) rfl (fun b161 => ?_) (fun b161 => ?_)
        · refine mv_aload_n d_Reader_term_40 rfl rfl ?_
          refine mv_bipush (v := 91) d_Reader_term_41 (by decide) ?_
          obtain ⟨_, b168, -⟩ := I154.1 _ _ t159
          refine mv_callV (kc' := 0) (ks' := 0) (As := [.int 91]) (st9 := [.int 91, .ref o0]) d_Reader_term_43 lV_Reader_209 b168 rfl (tc_Reader_isSign (d := (d + 10)) (x9 := x9) (o0 := o0) (x1 := 91) t159 I154.start) rfl (Nat.le_of_ble_eq_true rfl) (Nat.le_of_ble_eq_true rfl) (Nat.le_of_ble_eq_true rfl) (hst := rfl) (fun b162r M163 n164 b162 => ?_)
          obtain ⟨T165, J166, v169, rfl, b170, b171⟩ := b162
          have I167 := I154.call J166 (tm_sub (by decide)) (Or.inl rfl)
          have t172 := J166.up t159
          have q173 := J166.keep t159 (by decide) q160
          have := mz_hi v169
          refine mv_if_eqZ (tgt := 86) (a := v169.toInt) d_Reader_term_46 (by decide) rfl (fun b174 => ?_) (fun b174 => ?_)
          · refine mv_aload_n d_Reader_term_86 rfl rfl ?_
            obtain ⟨_, b181, -⟩ := I167.1 _ _ t172
            refine mv_callV (kc' := 0) (ks' := 0) (As := []) (st9 := [.ref o0]) d_Reader_term_87 lV_Reader_186 b181 rfl (tc_Reader_sum_q2 (d := d) (x9 := x9) (o0 := o0) t172 (p := p) q173 (by omega) I167.start) rfl (Nat.le_of_ble_eq_true rfl) (Nat.le_of_ble_eq_true rfl) (Nat.le_of_ble_eq_true rfl) (hst := rfl) (fun b175r M176 n177 b175 => ?_)
            obtain ⟨T178, J179, v182, rfl, b183, b184, o185⟩ := b175
            have I180 := I167.call J179 (tm_sub (by decide)) (Or.inl rfl)
            have t186 := J179.up t172
            have := mz_hi v182
            refine mv_if_neZ (tgt := 95) (a := v182.toInt) d_Reader_term_90 (by decide) rfl (fun b187 => ?_) (fun b187 => ?_)
            · have q188 := o185 (by omega)
              refine mv_aload_n d_Reader_term_95 rfl rfl ?_
              obtain ⟨_, b195, -⟩ := I180.1 _ _ t186
              refine mv_callV (kc' := 0) (ks' := 0) (As := []) (st9 := [.ref o0]) d_Reader_term_96 lV_Reader_215 b195 rfl (tc_Reader_comparisonHere (d := (d + 9)) (x9 := x9) (o0 := o0) t186 I180.start) rfl (Nat.le_of_ble_eq_true rfl) (Nat.le_of_ble_eq_true rfl) (Nat.le_of_ble_eq_true rfl) (hst := rfl) (fun b189r M190 n191 b189 => ?_)
              obtain ⟨T192, J193, v196, rfl⟩ := b189
              have I194 := I180.call J193 (tm_sub (by decide)) (Or.inl rfl)
              have t197 := J193.up t186
              have q198 := J193.keep t186 (by decide) q188
              refine mv_istore_n (lv' := [(2, .int v196), (1, .int i1_1), (0, .ref o0)]) d_Reader_term_99 rfl (by decide) rfl ?_
              refine mv_iload_n d_Reader_term_100 rfl rfl ?_
              refine mv_iconst (v := (-1)) d_Reader_term_101 (by decide) ?_
              have := mz_hi v196
              refine mv_icmp_neZ (tgt := 111) (a := v196.toInt) (b := (-1)) d_Reader_term_102 (by decide) rfl (by decide) (fun b199 => ?_) (fun b199 => ?_)
              · refine mv_aload_n d_Reader_term_111 rfl rfl ?_
                obtain ⟨_, b206, -⟩ := I194.1 _ _ t197
                refine mv_callV (kc' := 0) (ks' := 0) (As := []) (st9 := [.ref o0]) d_Reader_term_112 lV_Reader_82 b206 rfl (tc_Reader_advance (d := (d + 10)) (x9 := x9) (o0 := o0) t197 I194.start) rfl (Nat.le_of_ble_eq_true rfl) (Nat.le_of_ble_eq_true rfl) (Nat.le_of_ble_eq_true rfl) (hst := rfl) (fun b200r M201 n202 b200 => ?_)
                obtain ⟨T203, J204, rfl⟩ := b200
                have I205 := I194.call J204 (tm_sub (by decide)) (Or.inl rfl)
                have t207 := J204.up t197
                have q208 := J204.keep t197 (by decide) q198
                refine mv_aload_n d_Reader_term_115 rfl rfl ?_
                obtain ⟨_, b215, -⟩ := I205.1 _ _ t207
                refine mv_callV (kc' := 0) (ks' := 0) (As := []) (st9 := [.ref o0]) d_Reader_term_116 lV_Reader_186 b215 rfl (tc_Reader_sum_q2 (d := d) (x9 := x9) (o0 := o0) t207 (p := p) q208 (by omega) I205.start) rfl (Nat.le_of_ble_eq_true rfl) (Nat.le_of_ble_eq_true rfl) (Nat.le_of_ble_eq_true rfl) (hst := rfl) (fun b209r M210 n211 b209 => ?_)
                obtain ⟨T212, J213, v216, rfl, b217, b218, o219⟩ := b209
                have I214 := I205.call J213 (tm_sub (by decide)) (Or.inl rfl)
                have t220 := J213.up t207
                have := mz_hi v216
                refine mv_if_neZ (tgt := 124) (a := v216.toInt) d_Reader_term_119 (by decide) rfl (fun b221 => ?_) (fun b221 => ?_)
                · have q222 := o219 (by omega)
                  refine mv_aload_n d_Reader_term_124 rfl rfl ?_
                  refine mv_iload_n d_Reader_term_125 rfl rfl ?_
                  refine mv_iconst (v := 0) d_Reader_term_126 (by decide) ?_
                  obtain ⟨_, b229, -⟩ := I214.1 _ _ t220
                  refine mv_callV (kc' := 0) (ks' := 0) (As := [.int v196, .int 0]) (st9 := [.int 0, .int v196, .ref o0]) d_Reader_term_127 lV_Reader_203 b229 rfl (tc_Reader_emit (d := (d + 10)) (x9 := x9) (o0 := o0) (x1 := v196) (x2 := 0) t220 I214.start) rfl (Nat.le_of_ble_eq_true rfl) (Nat.le_of_ble_eq_true rfl) (Nat.le_of_ble_eq_true rfl) (hst := rfl) (fun b223r M224 n225 b223 => ?_)
                  obtain ⟨T226, J227, rfl⟩ := b223
                  have I228 := I214.call J227 (tm_sub (by decide)) (Or.inl rfl)
                  have t230 := J227.up t220
                  have q231 := J227.keep t220 (by decide) q222
                  refine mv_iload_n d_Reader_term_130 rfl rfl ?_
                  have := mz_hi i1_1
                  refine mv_if_eqZ (tgt := 141) (a := i1_1.toInt) d_Reader_term_131 (by decide) rfl (fun b232 => ?_) (fun b232 => ?_)
                  · refine mv_iconst (v := 1) d_Reader_term_141 (by decide) ?_
                    exact mv_iret d_Reader_term_142 rfl (by decide) ⟨_, I228, _, rfl, by decide, by decide, fun _ => q231⟩
                  · refine mv_aload_n d_Reader_term_134 rfl rfl ?_
                    refine mv_bipush (v := 8) d_Reader_term_135 (by decide) ?_
                    refine mv_iconst (v := 0) d_Reader_term_137 (by decide) ?_
                    obtain ⟨_, b239, -⟩ := I228.1 _ _ t230
                    refine mv_callV (kc' := 0) (ks' := 0) (As := [.int 8, .int 0]) (st9 := [.int 0, .int 8, .ref o0]) d_Reader_term_138 lV_Reader_203 b239 rfl (tc_Reader_emit (d := (d + 10)) (x9 := x9) (o0 := o0) (x1 := 8) (x2 := 0) t230 I228.start) rfl (Nat.le_of_ble_eq_true rfl) (Nat.le_of_ble_eq_true rfl) (Nat.le_of_ble_eq_true rfl) (hst := rfl) (fun b233r M234 n235 b233 => ?_)
                    obtain ⟨T236, J237, rfl⟩ := b233
                    have I238 := I228.call J237 (tm_sub (by decide)) (Or.inl rfl)
                    have t240 := J237.up t230
                    have q241 := J237.keep t230 (by decide) q231
                    refine mv_iconst (v := 1) d_Reader_term_141 (by decide) ?_
                    exact mv_iret d_Reader_term_142 rfl (by decide) ⟨_, I238, _, rfl, by decide, by decide, fun _ => q241⟩
                · refine mv_iconst (v := 0) d_Reader_term_122 (by decide) ?_
                  exact mv_iret d_Reader_term_123 rfl (by decide) ⟨_, I214, _, rfl, by decide, by decide, fun h => absurd h (by decide)⟩
              · refine mv_aload_n d_Reader_term_105 rfl rfl ?_
                refine mv_iconst (v := 1) d_Reader_term_106 (by decide) ?_
                obtain ⟨_, b248, -⟩ := I194.1 _ _ t197
                refine mv_callV (kc' := 0) (ks' := 0) (As := [.int 1]) (st9 := [.int 1, .ref o0]) d_Reader_term_107 lV_Reader_56 b248 rfl (tc_Reader_refuse (d := (d + 10)) (x9 := x9) (o0 := o0) (x1 := 1) t197 I194.start) rfl (Nat.le_of_ble_eq_true rfl) (Nat.le_of_ble_eq_true rfl) (Nat.le_of_ble_eq_true rfl) (hst := rfl) (fun b242r M243 n244 b242 => ?_)
                obtain ⟨T245, J246, rfl⟩ := b242
                have I247 := I194.call J246 (tm_sub (by decide)) (Or.inl rfl)
                have t249 := J246.up t197
                have q250 := J246.keep t197 (by decide) q198
                exact mv_iret d_Reader_term_110 rfl (by decide) ⟨_, I247, _, rfl, by decide, by decide, fun h => absurd h (by decide)⟩
            · refine mv_iconst (v := 0) d_Reader_term_93 (by decide) ?_
              exact mv_iret d_Reader_term_94 rfl (by decide) ⟨_, I180, _, rfl, by decide, by decide, fun h => absurd h (by decide)⟩
          · refine mv_aload_n d_Reader_term_49 rfl rfl ?_
            obtain ⟨_, b257, -⟩ := I167.1 _ _ t172
            refine mv_callV (kc' := 0) (ks' := 0) (As := []) (st9 := [.ref o0]) d_Reader_term_50 lV_Reader_212 b257 rfl (tc_Reader_openBracket_q2 (d := (d + 9)) (x9 := x9) (o0 := o0) t172 (p := p) q173 (by omega) I167.start) rfl (Nat.le_of_ble_eq_true rfl) (Nat.le_of_ble_eq_true rfl) (Nat.le_of_ble_eq_true rfl) (hst := rfl) (fun b251r M252 n253 b251 => ?_)
            obtain ⟨T254, J255, v258, rfl, b259, b260, o261⟩ := b251
            have I256 := I167.call J255 (tm_sub (by decide)) (Or.inl rfl)
            have t262 := J255.up t172
            have := mz_hi v258
            refine mv_if_eqZ (tgt := 63) (a := v258.toInt) d_Reader_term_53 (by decide) rfl (fun b263 => ?_) (fun b263 => ?_)
            · refine mv_iconst (v := 0) d_Reader_term_63 (by decide) ?_
              exact mv_iret d_Reader_term_64 rfl (by decide) ⟨_, I256, _, rfl, by decide, by decide, fun h => absurd h (by decide)⟩
            · obtain ⟨b265, q264⟩ := o261 (by omega)
              have b266 : (p + 1).toInt = p.toInt + 1 := mz_addn 1 1 (by decide) (by have := mz_lo p; omega) (by have := mz_hi p; omega)
              refine mv_aload_n d_Reader_term_56 rfl rfl ?_
              obtain ⟨_, b273, -⟩ := I256.1 _ _ t262
              refine mv_callV (kc' := 0) (ks' := 0) (As := []) (st9 := [.ref o0]) d_Reader_term_57 lV_Reader_124 b273 rfl (tc_Reader_condition_q1 (d := d) (x9 := x9) (o0 := o0) t262 (p := (p + 1)) q264 (by omega) I256.start) rfl (Nat.le_of_ble_eq_true rfl) (Nat.le_of_ble_eq_true rfl) (Nat.le_of_ble_eq_true rfl) (hst := rfl) (fun b267r M268 n269 b267 => ?_)
              obtain ⟨T270, J271, v274, rfl, b275, b276, o277⟩ := b267
              have I272 := I256.call J271 (tm_sub (by decide)) (Or.inl rfl)
              have t278 := J271.up t262
              have := mz_hi v274
              refine mv_if_neZ (tgt := 65) (a := v274.toInt) d_Reader_term_60 (by decide) rfl (fun b279 => ?_) (fun b279 => ?_)
              · have q280 := o277 (by omega)
                refine mv_aload_n d_Reader_term_65 rfl rfl ?_
                refine mv_dup d_Reader_term_66 rfl ?_
                refine tr_getK (k := 16) q280 d_Reader_term_67 f_Reader_73_9 ?_
                refine mv_iconst (v := 1) d_Reader_term_70 (by decide) ?_
                refine mv_isubv (v := p) d_Reader_term_71 (Int32.add_sub_cancel _ _) ?_
                refine tr_putK tm_okF I272 t278 (k := 16) rfl ⟨_, rfl⟩ (Or.inl (by decide)) d_Reader_term_72 p_Reader_73_9 rfl rfl (fun M281 I282 q283 K284 => ?_)
                refine mv_aload_n d_Reader_term_75 rfl rfl ?_
                refine mv_bipush (v := 93) d_Reader_term_76 (by decide) ?_
                obtain ⟨_, b291, -⟩ := I282.1 _ _ t278
                refine mv_callV (kc' := 0) (ks' := 0) (As := [.int 93]) (st9 := [.int 93, .ref o0]) d_Reader_term_78 lV_Reader_63 b291 rfl (tc_Reader_sign (d := (d + 9)) (x9 := x9) (o0 := o0) (x1 := 93) t278 I282.start) rfl (Nat.le_of_ble_eq_true rfl) (Nat.le_of_ble_eq_true rfl) (Nat.le_of_ble_eq_true rfl) (hst := rfl) (fun b285r M286 n287 b285 => ?_)
                obtain ⟨T288, J289, v292, rfl, b293, b294⟩ := b285
                have I290 := I282.call J289 (tm_sub (by decide)) (Or.inl rfl)
                have t295 := J289.up t278
                have q296 := J289.keep t278 (by decide) q283
                have := mz_hi v292
                refine mv_if_neZ (tgt := 130) (a := v292.toInt) d_Reader_term_81 (by decide) rfl (fun b297 => ?_) (fun b297 => ?_)
                · refine mv_iload_n d_Reader_term_130 rfl rfl ?_
                  have := mz_hi i1_1
                  refine mv_if_eqZ (tgt := 141) (a := i1_1.toInt) d_Reader_term_131 (by decide) rfl (fun b298 => ?_) (fun b298 => ?_)
                  · refine mv_iconst (v := 1) d_Reader_term_141 (by decide) ?_
                    exact mv_iret d_Reader_term_142 rfl (by decide) ⟨_, I290, _, rfl, by decide, by decide, fun _ => q296⟩
                  · refine mv_aload_n d_Reader_term_134 rfl rfl ?_
                    refine mv_bipush (v := 8) d_Reader_term_135 (by decide) ?_
                    refine mv_iconst (v := 0) d_Reader_term_137 (by decide) ?_
                    obtain ⟨_, b305, -⟩ := I290.1 _ _ t295
                    refine mv_callV (kc' := 0) (ks' := 0) (As := [.int 8, .int 0]) (st9 := [.int 0, .int 8, .ref o0]) d_Reader_term_138 lV_Reader_203 b305 rfl (tc_Reader_emit (d := (d + 10)) (x9 := x9) (o0 := o0) (x1 := 8) (x2 := 0) t295 I290.start) rfl (Nat.le_of_ble_eq_true rfl) (Nat.le_of_ble_eq_true rfl) (Nat.le_of_ble_eq_true rfl) (hst := rfl) (fun b299r M300 n301 b299 => ?_)
                    obtain ⟨T302, J303, rfl⟩ := b299
                    have I304 := I290.call J303 (tm_sub (by decide)) (Or.inl rfl)
                    have t306 := J303.up t295
                    have q307 := J303.keep t295 (by decide) q296
                    refine mv_iconst (v := 1) d_Reader_term_141 (by decide) ?_
                    exact mv_iret d_Reader_term_142 rfl (by decide) ⟨_, I304, _, rfl, by decide, by decide, fun _ => q307⟩
                · refine mv_iconst (v := 0) d_Reader_term_84 (by decide) ?_
                  exact mv_iret d_Reader_term_85 rfl (by decide) ⟨_, I290, _, rfl, by decide, by decide, fun h => absurd h (by decide)⟩
              · refine mv_iconst (v := 0) d_Reader_term_63 (by decide) ?_
                exact mv_iret d_Reader_term_64 rfl (by decide) ⟨_, I272, _, rfl, by decide, by decide, fun h => absurd h (by decide)⟩
        · refine mv_aload_n d_Reader_term_20 rfl rfl ?_
          obtain ⟨_, b314, -⟩ := I154.1 _ _ t159
          refine mv_callV (kc' := 0) (ks' := 0) (As := []) (st9 := [.ref o0]) d_Reader_term_21 lV_Reader_82 b314 rfl (tc_Reader_advance (d := (d + 10)) (x9 := x9) (o0 := o0) t159 I154.start) rfl (Nat.le_of_ble_eq_true rfl) (Nat.le_of_ble_eq_true rfl) (Nat.le_of_ble_eq_true rfl) (hst := rfl) (fun b308r M309 n310 b308 => ?_)
          obtain ⟨T311, J312, rfl⟩ := b308
          have I313 := I154.call J312 (tm_sub (by decide)) (Or.inl rfl)
          have t315 := J312.up t159
          have q316 := J312.keep t159 (by decide) q160
          refine mv_iload_n d_Reader_term_24 rfl rfl ?_
          have := mz_hi i1_1
          refine mv_if_neZ (tgt := 32) (a := i1_1.toInt) d_Reader_term_25 (by decide) rfl (fun b317 => ?_) (fun b317 => ?_)
          · refine mv_iconst (v := 0) d_Reader_term_32 (by decide) ?_
            refine mv_istore_n (lv' := [(1, .int 0), (2, .int i2_1), (0, .ref o0)]) d_Reader_term_33 rfl (by decide) rfl ?_
            refine mv_iinc (v := (i2_1 + 1)) (lv' := [(2, .int (i2_1 + 1)), (1, .int 0), (0, .ref o0)]) d_Reader_term_34 rfl rfl (by decide) rfl ?_
            refine mv_goto (tgt := 4) d_Reader_term_37 (by decide) ?_
            have b318 : (i2_1 + 1).toInt = i2_1.toInt + 1 := mz_addn 1 1 (by decide) (by have := mz_lo i2_1; omega) (by have := mz_hi i2_1; omega)
            exact (ih1 (i2_1 + 1) 0 T311 M309 n310 I313 t315 (by first | omega | decide) q316 (by omega))
          · refine mv_iconst (v := 1) d_Reader_term_28 (by decide) ?_
            refine mv_goto (tgt := 33) d_Reader_term_29 (by decide) ?_
            refine mv_istore_n (lv' := [(1, .int 1), (2, .int i2_1), (0, .ref o0)]) d_Reader_term_33 rfl (by decide) rfl ?_
            refine mv_iinc (v := (i2_1 + 1)) (lv' := [(2, .int (i2_1 + 1)), (1, .int 1), (0, .ref o0)]) d_Reader_term_34 rfl rfl (by decide) rfl ?_
            refine mv_goto (tgt := 4) d_Reader_term_37 (by decide) ?_
            have b319 : (i2_1 + 1).toInt = i2_1.toInt + 1 := mz_addn 1 1 (by decide) (by have := mz_lo i2_1; omega) (by have := mz_hi i2_1; omega)
            exact (ih1 (i2_1 + 1) 1 T311 M309 n310 I313 t315 (by first | omega | decide) q316 (by omega))
  exact mv_less (Nat.zero_le _) (Nat.zero_le _) (L4_1 4294967296 0 0 T0 M0 n0 I0 h_o0 (by first | omega | decide) hO (by show (2147483647 - (0 : Int) : Int) < _; decide))
def w_Reader_both_q2 : List Nat := [901, 902, 909, 910, 911, 912, 913, 914, 916, 918, 967]
theorem tc_Reader_both_q2 {g : mj_G} {l : Launch} {d : Nat} {T0 : tm_H} {M0 : mj_M} {n0 x9 : Nat} {o0 : Nat} (h_o0 : T0 o0 = some (0, 9, 0)) {p : Int32} (hO : tm_at M0 o0 9 16 (.int p)) (hp : 2 ≤ p.toInt) (I0 : tm_I tm_FT (tm_in w_Reader_both_q2) x9 T0 M0 n0 T0 M0 n0) : mj_Met g l kY_Reader_both (d + 12) [.ref o0] M0 n0 0 0 (tm_Q tm_FT (tm_in w_Reader_both_q2) x9 T0 M0 n0 (fun r _ M => ∃ v : Int32, r = some (.int v) ∧ 0 ≤ v.toInt ∧ v.toInt ≤ 1 ∧ (v.toInt = 1 → tm_at M o0 9 16 (.int p)))) := by
  refine mj_enter (by decide) (Nat.le_of_ble_eq_true rfl) ?_
  refine mv_aload_n d_Reader_both_0 rfl rfl ?_
  obtain ⟨_, b7, -⟩ := I0.1 _ _ h_o0
  refine mv_callV (kc' := 0) (ks' := 0) (As := []) (st9 := [.ref o0]) d_Reader_both_1 lV_Reader_206 b7 rfl (tc_Reader_term_q2 (d := d) (x9 := x9) (o0 := o0) h_o0 (p := p) hO (by omega) I0.start) rfl (Nat.le_of_ble_eq_true rfl) (Nat.le_of_ble_eq_true rfl) (Nat.le_of_ble_eq_true rfl) (hst := rfl) (fun b1r M2 n3 b1 => ?_)
  obtain ⟨T4, J5, v8, rfl, b9, b10, o11⟩ := b1
  have I6 := I0.call J5 (tm_sub (by decide)) (Or.inl rfl)
  have t12 := J5.up h_o0
  have := mz_hi v8
  refine mv_if_neZ (tgt := 9) (a := v8.toInt) d_Reader_both_4 (by decide) rfl (fun b13 => ?_) (fun b13 => ?_)
  · have q14 := o11 (by omega)
    refine mv_iconst (v := 0) d_Reader_both_9 (by decide) ?_
    refine mv_istore_n (lv' := [(1, .int 0), (0, .ref o0)]) d_Reader_both_10 rfl (by decide) rfl ?_
    have L11_15 : ∀ (k : Nat) (i1_15 : Int32) (T_15 : tm_H) (M_15 : mj_M) (n_15 : Nat), tm_I tm_FT (tm_in w_Reader_both_q2) x9 T0 M0 n0 T_15 M_15 n_15 → T_15 o0 = some (0, 9, 0) → 0 ≤ i1_15.toInt → tm_at M_15 o0 9 16 (.int p) → 2147483647 - i1_15.toInt < (k : Int) → mj_V g l kY_Reader_both (d + 12) 11 [(1, .int i1_15), (0, .ref o0)] [] M_15 n_15 0 0 (tm_Q tm_FT (tm_in w_Reader_both_q2) x9 T0 M0 n0 (fun r _ M => ∃ v : Int32, r = some (.int v) ∧ 0 ≤ v.toInt ∧ v.toInt ≤ 1 ∧ (v.toInt = 1 → tm_at M o0 9 16 (.int p)))) := by
      intro k15
      induction k15 with
      | zero =>
        intro i1_15 T_15 M_15 n_15 I_15 h_q0_15 iv0_15 kp0_15 hk15
        have := mz_hi i1_15
        omega
      | succ k15 ih15 =>
        intro i1_15 T_15 M_15 n_15 I_15 h_q0_15 iv0_15 kp0_15 hk15
        refine mv_iload_n d_Reader_both_11 rfl rfl ?_
        refine mv_sipush (v := 400) d_Reader_both_12 (by decide) ?_
        have := mz_hi i1_15
        refine mv_icmp_geZ (tgt := 53) (a := i1_15.toInt) (b := 400) d_Reader_both_15 (by decide) rfl (by decide) (fun b16 => ?_) (fun b16 => ?_)
        · refine mv_iconst (v := 1) d_Reader_both_53 (by decide) ?_
          exact mv_iret d_Reader_both_54 rfl (by decide) ⟨_, I_15, _, rfl, by decide, by decide, fun _ => kp0_15⟩
        · refine mv_aload_n d_Reader_both_18 rfl rfl ?_
          refine mv_bipush (v := 31) d_Reader_both_19 (by decide) ?_
          obtain ⟨_, b23, -⟩ := I_15.1 _ _ h_q0_15
          refine mv_callV (kc' := 0) (ks' := 0) (As := [.int 31]) (st9 := [.int 31, .ref o0]) d_Reader_both_21 lV_Reader_52 b23 rfl (tc_Reader_isWord (d := (d + 11)) (x9 := x9) (o0 := o0) (x1 := 31) h_q0_15 I_15.start) rfl (Nat.le_of_ble_eq_true rfl) (Nat.le_of_ble_eq_true rfl) (Nat.le_of_ble_eq_true rfl) (hst := rfl) (fun b17r M18 n19 b17 => ?_)
          obtain ⟨T20, J21, v24, rfl, b25, b26⟩ := b17
          have I22 := I_15.call J21 (tm_sub (by decide)) (Or.inl rfl)
          have t27 := J21.up h_q0_15
          have q28 := J21.keep h_q0_15 (by decide) kp0_15
          have := mz_hi v24
          refine mv_if_eqZ (tgt := 53) (a := v24.toInt) d_Reader_both_24 (by decide) rfl (fun b29 => ?_) (fun b29 => ?_)
          · refine mv_iconst (v := 1) d_Reader_both_53 (by decide) ?_
            exact mv_iret d_Reader_both_54 rfl (by decide) ⟨_, I22, _, rfl, by decide, by decide, fun _ => q28⟩
          · refine mv_aload_n d_Reader_both_27 rfl rfl ?_
            obtain ⟨_, b36, -⟩ := I22.1 _ _ t27
            refine mv_callV (kc' := 0) (ks' := 0) (As := []) (st9 := [.ref o0]) d_Reader_both_28 lV_Reader_82 b36 rfl (tc_Reader_advance (d := (d + 11)) (x9 := x9) (o0 := o0) t27 I22.start) rfl (Nat.le_of_ble_eq_true rfl) (Nat.le_of_ble_eq_true rfl) (Nat.le_of_ble_eq_true rfl) (hst := rfl) (fun b30r M31 n32 b30 => ?_)
            obtain ⟨T33, J34, rfl⟩ := b30
            have I35 := I22.call J34 (tm_sub (by decide)) (Or.inl rfl)
            have t37 := J34.up t27
            have q38 := J34.keep t27 (by decide) q28
            refine mv_aload_n d_Reader_both_31 rfl rfl ?_
            obtain ⟨_, b45, -⟩ := I35.1 _ _ t37
            refine mv_callV (kc' := 0) (ks' := 0) (As := []) (st9 := [.ref o0]) d_Reader_both_32 lV_Reader_206 b45 rfl (tc_Reader_term_q2 (d := d) (x9 := x9) (o0 := o0) t37 (p := p) q38 (by omega) I35.start) rfl (Nat.le_of_ble_eq_true rfl) (Nat.le_of_ble_eq_true rfl) (Nat.le_of_ble_eq_true rfl) (hst := rfl) (fun b39r M40 n41 b39 => ?_)
            obtain ⟨T42, J43, v46, rfl, b47, b48, o49⟩ := b39
            have I44 := I35.call J43 (tm_sub (by decide)) (Or.inl rfl)
            have t50 := J43.up t37
            have := mz_hi v46
            refine mv_if_neZ (tgt := 40) (a := v46.toInt) d_Reader_both_35 (by decide) rfl (fun b51 => ?_) (fun b51 => ?_)
            · have q52 := o49 (by omega)
              refine mv_aload_n d_Reader_both_40 rfl rfl ?_
              refine mv_bipush (v := 9) d_Reader_both_41 (by decide) ?_
              refine mv_iconst (v := 0) d_Reader_both_43 (by decide) ?_
              obtain ⟨_, b59, -⟩ := I44.1 _ _ t50
              refine mv_callV (kc' := 0) (ks' := 0) (As := [.int 9, .int 0]) (st9 := [.int 0, .int 9, .ref o0]) d_Reader_both_44 lV_Reader_203 b59 rfl (tc_Reader_emit (d := (d + 11)) (x9 := x9) (o0 := o0) (x1 := 9) (x2 := 0) t50 I44.start) rfl (Nat.le_of_ble_eq_true rfl) (Nat.le_of_ble_eq_true rfl) (Nat.le_of_ble_eq_true rfl) (hst := rfl) (fun b53r M54 n55 b53 => ?_)
              obtain ⟨T56, J57, rfl⟩ := b53
              have I58 := I44.call J57 (tm_sub (by decide)) (Or.inl rfl)
              have t60 := J57.up t50
              have q61 := J57.keep t50 (by decide) q52
              refine mv_iinc (v := (i1_15 + 1)) (lv' := [(1, .int (i1_15 + 1)), (0, .ref o0)]) d_Reader_both_47 rfl rfl (by decide) rfl ?_
              refine mv_goto (tgt := 11) d_Reader_both_50 (by decide) ?_
              have b62 : (i1_15 + 1).toInt = i1_15.toInt + 1 := mz_addn 1 1 (by decide) (by have := mz_lo i1_15; omega) (by have := mz_hi i1_15; omega)
              exact (ih15 (i1_15 + 1) T56 M54 n55 I58 t60 (by first | omega | decide) q61 (by omega))
            · refine mv_iconst (v := 0) d_Reader_both_38 (by decide) ?_
              exact mv_iret d_Reader_both_39 rfl (by decide) ⟨_, I44, _, rfl, by decide, by decide, fun h => absurd h (by decide)⟩
    exact mv_less (Nat.zero_le _) (Nat.zero_le _) (L11_15 4294967296 0 T4 M2 n3 I6 t12 (by first | omega | decide) q14 (by show (2147483647 - (0 : Int) : Int) < _; decide))
  · refine mv_iconst (v := 0) d_Reader_both_7 (by decide) ?_
    exact mv_iret d_Reader_both_8 rfl (by decide) ⟨_, I6, _, rfl, by decide, by decide, fun h => absurd h (by decide)⟩
def w_Reader_condition_q2 : List Nat := [901, 902, 909, 910, 911, 912, 913, 914, 916, 918, 967]
theorem tc_Reader_condition_q2 {g : mj_G} {l : Launch} {d : Nat} {T0 : tm_H} {M0 : mj_M} {n0 x9 : Nat} {o0 : Nat} (h_o0 : T0 o0 = some (0, 9, 0)) {p : Int32} (hO : tm_at M0 o0 9 16 (.int p)) (hp : 2 ≤ p.toInt) (I0 : tm_I tm_FT (tm_in w_Reader_condition_q2) x9 T0 M0 n0 T0 M0 n0) : mj_Met g l kY_Reader_condition (d + 13) [.ref o0] M0 n0 0 0 (tm_Q tm_FT (tm_in w_Reader_condition_q2) x9 T0 M0 n0 (fun r _ M => ∃ v : Int32, r = some (.int v) ∧ 0 ≤ v.toInt ∧ v.toInt ≤ 1 ∧ (v.toInt = 1 → tm_at M o0 9 16 (.int p)))) := by
  refine mj_enter (by decide) (Nat.le_of_ble_eq_true rfl) ?_
  refine mv_aload_n d_Reader_condition_0 rfl rfl ?_
  obtain ⟨_, b7, -⟩ := I0.1 _ _ h_o0
  refine mv_callV (kc' := 0) (ks' := 0) (As := []) (st9 := [.ref o0]) d_Reader_condition_1 lV_Reader_198 b7 rfl (tc_Reader_both_q2 (d := d) (x9 := x9) (o0 := o0) h_o0 (p := p) hO (by omega) I0.start) rfl (Nat.le_of_ble_eq_true rfl) (Nat.le_of_ble_eq_true rfl) (Nat.le_of_ble_eq_true rfl) (hst := rfl) (fun b1r M2 n3 b1 => ?_)
  obtain ⟨T4, J5, v8, rfl, b9, b10, o11⟩ := b1
  have I6 := I0.call J5 (tm_sub (by decide)) (Or.inl rfl)
  have t12 := J5.up h_o0
  have := mz_hi v8
  refine mv_if_neZ (tgt := 9) (a := v8.toInt) d_Reader_condition_4 (by decide) rfl (fun b13 => ?_) (fun b13 => ?_)
  · have q14 := o11 (by omega)
    refine mv_iconst (v := 0) d_Reader_condition_9 (by decide) ?_
    refine mv_istore_n (lv' := [(1, .int 0), (0, .ref o0)]) d_Reader_condition_10 rfl (by decide) rfl ?_
    have L11_15 : ∀ (k : Nat) (i1_15 : Int32) (T_15 : tm_H) (M_15 : mj_M) (n_15 : Nat), tm_I tm_FT (tm_in w_Reader_condition_q2) x9 T0 M0 n0 T_15 M_15 n_15 → T_15 o0 = some (0, 9, 0) → 0 ≤ i1_15.toInt → tm_at M_15 o0 9 16 (.int p) → 2147483647 - i1_15.toInt < (k : Int) → mj_V g l kY_Reader_condition (d + 13) 11 [(1, .int i1_15), (0, .ref o0)] [] M_15 n_15 0 0 (tm_Q tm_FT (tm_in w_Reader_condition_q2) x9 T0 M0 n0 (fun r _ M => ∃ v : Int32, r = some (.int v) ∧ 0 ≤ v.toInt ∧ v.toInt ≤ 1 ∧ (v.toInt = 1 → tm_at M o0 9 16 (.int p)))) := by
      intro k15
      induction k15 with
      | zero =>
        intro i1_15 T_15 M_15 n_15 I_15 h_q0_15 iv0_15 kp0_15 hk15
        have := mz_hi i1_15
        omega
      | succ k15 ih15 =>
        intro i1_15 T_15 M_15 n_15 I_15 h_q0_15 iv0_15 kp0_15 hk15
        refine mv_iload_n d_Reader_condition_11 rfl rfl ?_
        refine mv_sipush (v := 400) d_Reader_condition_12 (by decide) ?_
        have := mz_hi i1_15
        refine mv_icmp_geZ (tgt := 53) (a := i1_15.toInt) (b := 400) d_Reader_condition_15 (by decide) rfl (by decide) (fun b16 => ?_) (fun b16 => ?_)
        · refine mv_iconst (v := 1) d_Reader_condition_53 (by decide) ?_
          exact mv_iret d_Reader_condition_54 rfl (by decide) ⟨_, I_15, _, rfl, by decide, by decide, fun _ => kp0_15⟩
        · refine mv_aload_n d_Reader_condition_18 rfl rfl ?_
          refine mv_bipush (v := 32) d_Reader_condition_19 (by decide) ?_
          obtain ⟨_, b23, -⟩ := I_15.1 _ _ h_q0_15
          refine mv_callV (kc' := 0) (ks' := 0) (As := [.int 32]) (st9 := [.int 32, .ref o0]) d_Reader_condition_21 lV_Reader_52 b23 rfl (tc_Reader_isWord (d := (d + 12)) (x9 := x9) (o0 := o0) (x1 := 32) h_q0_15 I_15.start) rfl (Nat.le_of_ble_eq_true rfl) (Nat.le_of_ble_eq_true rfl) (Nat.le_of_ble_eq_true rfl) (hst := rfl) (fun b17r M18 n19 b17 => ?_)
          obtain ⟨T20, J21, v24, rfl, b25, b26⟩ := b17
          have I22 := I_15.call J21 (tm_sub (by decide)) (Or.inl rfl)
          have t27 := J21.up h_q0_15
          have q28 := J21.keep h_q0_15 (by decide) kp0_15
          have := mz_hi v24
          refine mv_if_eqZ (tgt := 53) (a := v24.toInt) d_Reader_condition_24 (by decide) rfl (fun b29 => ?_) (fun b29 => ?_)
          · refine mv_iconst (v := 1) d_Reader_condition_53 (by decide) ?_
            exact mv_iret d_Reader_condition_54 rfl (by decide) ⟨_, I22, _, rfl, by decide, by decide, fun _ => q28⟩
          · refine mv_aload_n d_Reader_condition_27 rfl rfl ?_
            obtain ⟨_, b36, -⟩ := I22.1 _ _ t27
            refine mv_callV (kc' := 0) (ks' := 0) (As := []) (st9 := [.ref o0]) d_Reader_condition_28 lV_Reader_82 b36 rfl (tc_Reader_advance (d := (d + 12)) (x9 := x9) (o0 := o0) t27 I22.start) rfl (Nat.le_of_ble_eq_true rfl) (Nat.le_of_ble_eq_true rfl) (Nat.le_of_ble_eq_true rfl) (hst := rfl) (fun b30r M31 n32 b30 => ?_)
            obtain ⟨T33, J34, rfl⟩ := b30
            have I35 := I22.call J34 (tm_sub (by decide)) (Or.inl rfl)
            have t37 := J34.up t27
            have q38 := J34.keep t27 (by decide) q28
            refine mv_aload_n d_Reader_condition_31 rfl rfl ?_
            obtain ⟨_, b45, -⟩ := I35.1 _ _ t37
            refine mv_callV (kc' := 0) (ks' := 0) (As := []) (st9 := [.ref o0]) d_Reader_condition_32 lV_Reader_198 b45 rfl (tc_Reader_both_q2 (d := d) (x9 := x9) (o0 := o0) t37 (p := p) q38 (by omega) I35.start) rfl (Nat.le_of_ble_eq_true rfl) (Nat.le_of_ble_eq_true rfl) (Nat.le_of_ble_eq_true rfl) (hst := rfl) (fun b39r M40 n41 b39 => ?_)
            obtain ⟨T42, J43, v46, rfl, b47, b48, o49⟩ := b39
            have I44 := I35.call J43 (tm_sub (by decide)) (Or.inl rfl)
            have t50 := J43.up t37
            have := mz_hi v46
            refine mv_if_neZ (tgt := 40) (a := v46.toInt) d_Reader_condition_35 (by decide) rfl (fun b51 => ?_) (fun b51 => ?_)
            · have q52 := o49 (by omega)
              refine mv_aload_n d_Reader_condition_40 rfl rfl ?_
              refine mv_bipush (v := 10) d_Reader_condition_41 (by decide) ?_
              refine mv_iconst (v := 0) d_Reader_condition_43 (by decide) ?_
              obtain ⟨_, b59, -⟩ := I44.1 _ _ t50
              refine mv_callV (kc' := 0) (ks' := 0) (As := [.int 10, .int 0]) (st9 := [.int 0, .int 10, .ref o0]) d_Reader_condition_44 lV_Reader_203 b59 rfl (tc_Reader_emit (d := (d + 12)) (x9 := x9) (o0 := o0) (x1 := 10) (x2 := 0) t50 I44.start) rfl (Nat.le_of_ble_eq_true rfl) (Nat.le_of_ble_eq_true rfl) (Nat.le_of_ble_eq_true rfl) (hst := rfl) (fun b53r M54 n55 b53 => ?_)
              obtain ⟨T56, J57, rfl⟩ := b53
              have I58 := I44.call J57 (tm_sub (by decide)) (Or.inl rfl)
              have t60 := J57.up t50
              have q61 := J57.keep t50 (by decide) q52
              refine mv_iinc (v := (i1_15 + 1)) (lv' := [(1, .int (i1_15 + 1)), (0, .ref o0)]) d_Reader_condition_47 rfl rfl (by decide) rfl ?_
              refine mv_goto (tgt := 11) d_Reader_condition_50 (by decide) ?_
              have b62 : (i1_15 + 1).toInt = i1_15.toInt + 1 := mz_addn 1 1 (by decide) (by have := mz_lo i1_15; omega) (by have := mz_hi i1_15; omega)
              exact (ih15 (i1_15 + 1) T56 M54 n55 I58 t60 (by first | omega | decide) q61 (by omega))
            · refine mv_iconst (v := 0) d_Reader_condition_38 (by decide) ?_
              exact mv_iret d_Reader_condition_39 rfl (by decide) ⟨_, I44, _, rfl, by decide, by decide, fun h => absurd h (by decide)⟩
    exact mv_less (Nat.zero_le _) (Nat.zero_le _) (L11_15 4294967296 0 T4 M2 n3 I6 t12 (by first | omega | decide) q14 (by show (2147483647 - (0 : Int) : Int) < _; decide))
  · refine mv_iconst (v := 0) d_Reader_condition_7 (by decide) ?_
    exact mv_iret d_Reader_condition_8 rfl (by decide) ⟨_, I6, _, rfl, by decide, by decide, fun h => absurd h (by decide)⟩
