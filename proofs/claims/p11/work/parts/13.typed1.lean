/-- the fields of the classes, typed -/
def tm_FT (c : Nat) : List tm_F := match c with
  | 1 => [(0, 0, 0, 0), (0, 0, 0, 0), (3, 3, 2, 0), (2, 1, 1224, 6), (2, 1, 1232, 20)]
  | 2 => [(2, 2, 0, 0)]
  | 3 => [(2, 0, 4, 0), (0, 0, 0, 0), (0, 0, 0, 0), (0, 0, 0, 0)]
  | 4 => [(1, 0, 0, 0), (0, 0, 0, 0), (2, 0, 2, 0), (2, 0, 2, 0), (0, 0, 0, 0)]
  | 5 => [(2, 1, 4400, 300), (2, 1, 4408, 300), (2, 1, 4416, 300), (2, 1, 4424, 300), (0, 0, 0, 0)]
  | 6 => [(0, 0, 0, 0), (0, 0, 0, 0), (0, 0, 0, 0), (1, 0, 0, 0), (0, 0, 0, 0), (0, 0, 0, 0), (0, 0, 0, 0), (0, 0, 0, 0), (0, 0, 0, 0), (0, 0, 0, 0), (1, 0, 0, 0), (3, 3, 3, 0), (2, 1, 5296, 12), (2, 1, 5306, 100), (2, 1, 5314, 101)]
  | 7 => [(1, 0, 0, 0), (0, 0, 0, 0), (0, 0, 0, 0), (0, 0, 0, 0), (2, 1, 6032, 8), (2, 1, 6041, 8), (2, 1, 6048, 8), (2, 1, 6056, 8), (2, 1, 6064, 8), (2, 1, 6072, 8), (2, 1, 6080, 8), (2, 1, 6089, 8), (2, 1, 6097, 9), (1, 0, 0, 0)]
  | 8 => [(2, 0, 4, 0), (0, 0, 0, 0)]
  | 9 => [(0, 0, 0, 0), (0, 0, 0, 0), (0, 0, 0, 0), (2, 1, 7624, 400), (2, 1, 7632, 400), (2, 1, 7640, 400), (2, 1, 7648, 400), (2, 1, 7656, 400), (0, 0, 0, 0), (0, 0, 0, 0), (0, 0, 0, 0), (0, 0, 0, 0), (0, 0, 0, 0), (0, 0, 0, 0), (0, 0, 0, 0), (0, 0, 0, 0), (0, 0, 0, 0), (2, 1, 7736, 400), (0, 0, 0, 0)]
  | 10 => [(2, 1, 8401, 13), (0, 0, 0, 0), (2, 1, 8417, 64), (0, 0, 0, 0), (0, 0, 0, 0)]
  | 11 => [(0, 0, 0, 0), (0, 0, 0, 0), (0, 0, 0, 0), (0, 0, 0, 0), (0, 0, 0, 0), (0, 0, 0, 0), (0, 0, 0, 0), (0, 0, 0, 0), (0, 0, 0, 0), (0, 0, 0, 0), (2, 1, 9282, 100), (2, 1, 9291, 100)]
  | 12 => [(2, 0, 5, 0), (2, 0, 9, 0), (2, 0, 10, 0), (2, 0, 7, 0), (2, 0, 1, 0), (3, 3, 1, 0), (3, 3, 6, 0), (3, 3, 8, 0), (3, 3, 11, 0), (2, 1, 10072, 2400), (0, 0, 0, 0), (0, 0, 0, 0), (0, 0, 0, 0)]
  | _ => []
theorem tm_okF : tm_ok tm_FT := by
  intro c f hf
  unfold tm_FT at hf
  split at hf <;> first | exact absurd hf List.not_mem_nil | exact of_decide_eq_true (List.all_eq_true.mp (by decide : (_ : List tm_F).all (fun f => decide (f.2.1 < 5)) = true) f hf)
def tm_in (L : List Nat) : Nat → Bool := fun k => L.contains k
theorem tm_sub {L L1 : List Nat} (h : L1.all (fun k => L.contains k) = true) : ∀ k, tm_in L k = false → tm_in L1 k = false := by
  intro k hk
  cases h1 : tm_in L1 k with
  | false => rfl
  | true =>
    have h2 := List.all_eq_true.mp h k (by simpa [tm_in] using h1)
    rw [show tm_in L k = L.contains k from rfl, h2] at hk
    cases hk
theorem mz_hi (x : Int32) : x.toInt ≤ 2147483647 := by
  have := Int32.toInt_lt x
  omega
theorem mz_lo (x : Int32) : -2147483648 ≤ x.toInt := Int32.le_toInt x
theorem mz_addc {x : Int32} (c : Int32) (h1 : -2147483648 ≤ x.toInt + c.toInt) (h2 : x.toInt + c.toInt ≤ 2147483647) : (x + c).toInt = x.toInt + c.toInt := by
  rw [Int32.toInt_add]
  exact fb_bmod32 h1 (by omega)
theorem mz_addn {x : Int32} (c : Int32) (n : Int) (hc : c.toInt = n) (h1 : -2147483648 ≤ x.toInt + n) (h2 : x.toInt + n ≤ 2147483647) : (x + c).toInt = x.toInt + n := by
  subst hc
  exact mz_addc c h1 h2
theorem mz_subn {x : Int32} (c : Int32) (n : Int) (hc : c.toInt = n) (h1 : -2147483648 ≤ x.toInt - n) (h2 : x.toInt - n ≤ 2147483647) : (x - c).toInt = x.toInt - n := by
  subst hc
  rw [Int32.toInt_sub]
  exact fb_bmod32 h1 (by omega)
theorem tm_I.up {FT : Nat → List tm_F} {W : Nat → Bool} {x n0 n : Nat} {T0 T : tm_H} {M0 M : mj_M} (J : tm_I FT W x T0 M0 n0 T M n) {a : Nat} {t : tm_T} (h : T0 a = some t) : T a = some t := (J.2.2.2.2.2.1 a (J.2.2.2.2.1 a t h)).trans h
abbrev kY_ArrayList_size : mj_Y := (⟨"java/util/ArrayList", "size", "()I"⟩, prog_33_method_8_code, 1, (Option.some Jvm.ClassFile.FieldType.int))
abbrev kY_ArrayList_get : mj_Y := (⟨"java/util/ArrayList", "get", "(I)Ljava/lang/Object;"⟩, prog_33_method_20_code, 2, (Option.some (Jvm.ClassFile.FieldType.object "java/lang/Object")))
abbrev kY_ArrayList_elementData : mj_Y := (⟨"java/util/ArrayList", "elementData", "(I)Ljava/lang/Object;"⟩, prog_33_method_18_code, 2, (Option.some (Jvm.ClassFile.FieldType.object "java/lang/Object")))
abbrev kY_Objects_checkIndex : mj_Y := (⟨"java/util/Objects", "checkIndex", "(II)I"⟩, prog_38_method_17_code, 2, (Option.some Jvm.ClassFile.FieldType.int))
abbrev kY_Preconditions_checkIndex : mj_Y := (⟨"jdk/internal/util/Preconditions", "checkIndex", "(IILjava/util/function/BiFunction;)I"⟩, prog_42_method_11_code, 3, (Option.some Jvm.ClassFile.FieldType.int))
theorem f_ArrayList_48_0 : mj_fl "java/util/ArrayList" 48 0 2 := ⟨kR_ArrayList, kF_ArrayList, 3, "java/util/ArrayList", rfl, kg_0, by decide, (mj_in1 (List.mem_of_getElem? (i := 226) (by decide +kernel)) rfl), Or.inl rfl⟩
theorem f_ArrayList_9_0 : mj_fl "java/util/ArrayList" 9 0 1 := ⟨kR_ArrayList, kF_ArrayList, 3, "java/util/ArrayList", rfl, kg_0, by decide, (mj_in1 (List.mem_of_getElem? (i := 225) (by decide +kernel)) rfl), Or.inl rfl⟩
theorem d_ArrayList_size_0 : decode kY_ArrayList_size.2.1 0 = .ok (.aload_n 0, 1) := by decide +kernel
theorem d_ArrayList_size_1 : decode kY_ArrayList_size.2.1 1 = .ok (.getfield 48, 3) := by decide +kernel
theorem d_ArrayList_size_4 : decode kY_ArrayList_size.2.1 4 = .ok (.ireturn, 1) := by decide +kernel
theorem d_Preconditions_checkIndex_0 : decode kY_Preconditions_checkIndex.2.1 0 = .ok (.iload_n 0, 1) := by decide +kernel
theorem d_Preconditions_checkIndex_1 : decode kY_Preconditions_checkIndex.2.1 1 = .ok (.ifCond .lt 8, 3) := by decide +kernel
theorem d_Preconditions_checkIndex_4 : decode kY_Preconditions_checkIndex.2.1 4 = .ok (.iload_n 0, 1) := by decide +kernel
theorem d_Preconditions_checkIndex_5 : decode kY_Preconditions_checkIndex.2.1 5 = .ok (.iload_n 1, 1) := by decide +kernel
theorem d_Preconditions_checkIndex_6 : decode kY_Preconditions_checkIndex.2.1 6 = .ok (.if_icmp .lt 10, 3) := by decide +kernel
theorem d_Preconditions_checkIndex_16 : decode kY_Preconditions_checkIndex.2.1 16 = .ok (.iload_n 0, 1) := by decide +kernel
theorem d_Preconditions_checkIndex_17 : decode kY_Preconditions_checkIndex.2.1 17 = .ok (.ireturn, 1) := by decide +kernel
theorem d_Objects_checkIndex_0 : decode kY_Objects_checkIndex.2.1 0 = .ok (.iload_n 0, 1) := by decide +kernel
theorem d_Objects_checkIndex_1 : decode kY_Objects_checkIndex.2.1 1 = .ok (.iload_n 1, 1) := by decide +kernel
theorem d_Objects_checkIndex_2 : decode kY_Objects_checkIndex.2.1 2 = .ok (.aconst_null, 1) := by decide +kernel
theorem d_Objects_checkIndex_3 : decode kY_Objects_checkIndex.2.1 3 = .ok (.invokestatic 105, 3) := by decide +kernel
theorem d_Objects_checkIndex_6 : decode kY_Objects_checkIndex.2.1 6 = .ok (.ireturn, 1) := by decide +kernel
theorem d_ArrayList_elementData_0 : decode kY_ArrayList_elementData.2.1 0 = .ok (.aload_n 0, 1) := by decide +kernel
theorem d_ArrayList_elementData_1 : decode kY_ArrayList_elementData.2.1 1 = .ok (.getfield 9, 3) := by decide +kernel
theorem d_ArrayList_elementData_4 : decode kY_ArrayList_elementData.2.1 4 = .ok (.iload_n 1, 1) := by decide +kernel
theorem d_ArrayList_elementData_5 : decode kY_ArrayList_elementData.2.1 5 = .ok (.aaload, 1) := by decide +kernel
theorem d_ArrayList_elementData_6 : decode kY_ArrayList_elementData.2.1 6 = .ok (.areturn, 1) := by decide +kernel
theorem d_ArrayList_get_0 : decode kY_ArrayList_get.2.1 0 = .ok (.iload_n 1, 1) := by decide +kernel
theorem d_ArrayList_get_1 : decode kY_ArrayList_get.2.1 1 = .ok (.aload_n 0, 1) := by decide +kernel
theorem d_ArrayList_get_2 : decode kY_ArrayList_get.2.1 2 = .ok (.getfield 48, 3) := by decide +kernel
theorem d_ArrayList_get_5 : decode kY_ArrayList_get.2.1 5 = .ok (.invokestatic 118, 3) := by decide +kernel
theorem d_ArrayList_get_8 : decode kY_ArrayList_get.2.1 8 = .ok (.pop, 1) := by decide +kernel
theorem d_ArrayList_get_9 : decode kY_ArrayList_get.2.1 9 = .ok (.aload_n 0, 1) := by decide +kernel
theorem d_ArrayList_get_10 : decode kY_ArrayList_get.2.1 10 = .ok (.iload_n 1, 1) := by decide +kernel
theorem d_ArrayList_get_11 : decode kY_ArrayList_get.2.1 11 = .ok (.invokevirtual 123, 3) := by decide +kernel
theorem d_ArrayList_get_14 : decode kY_ArrayList_get.2.1 14 = .ok (.areturn, 1) := by decide +kernel
theorem lS_Objects_105 : mj_lS "java/util/Objects" 105 kY_Preconditions_checkIndex 3 := ⟨⟨(mj_in1 (List.mem_of_getElem? (i := 641) (by decide +kernel)) rfl), (mj_in1 (List.mem_of_getElem? (i := 13) (by decide +kernel)) rfl), (mj_in1 (List.mem_of_getElem? (i := 418) (by decide +kernel)) rfl), by decide, rfl, by decide⟩, (mj_in1 (List.mem_of_getElem? (i := 417) (by decide +kernel)) rfl)⟩
theorem lS_ArrayList_118 : mj_lS "java/util/ArrayList" 118 kY_Objects_checkIndex 2 := ⟨⟨(mj_in1 (List.mem_of_getElem? (i := 638) (by decide +kernel)) rfl), (mj_in1 (List.mem_of_getElem? (i := 20) (by decide +kernel)) rfl), (mj_in1 (List.mem_of_getElem? (i := 640) (by decide +kernel)) rfl), by decide, rfl, by decide⟩, (mj_in1 (List.mem_of_getElem? (i := 639) (by decide +kernel)) rfl)⟩
theorem lV_ArrayList_123 : mj_lV "java/util/ArrayList" 123 kY_ArrayList_elementData 1 := ⟨⟨(mj_in1 (List.mem_of_getElem? (i := 642) (by decide +kernel)) rfl), (mj_in1 (List.mem_of_getElem? (i := 9) (by decide +kernel)) rfl), (mj_in1 (List.mem_of_getElem? (i := 645) (by decide +kernel)) rfl), by decide, rfl, by decide⟩, (mj_in1 (List.mem_of_getElem? (i := 643) (by decide +kernel)) rfl), (mj_in1 (List.mem_of_getElem? (i := 644) (by decide +kernel)) rfl)⟩
theorem tc_L_size {g : mj_G} {l : Launch} {d nx : Nat} {M : mj_M} {a e : Nat} {m n : Int32} (hM : M a = some (.inr (0, [.int m, .ref e, .int n]))) : mj_Met g l kY_ArrayList_size d [.ref a] M nx 0 0 (mj_E1 (some (.int n)) M nx) := by
  refine mj_enter (by decide) (Nat.le_of_ble_eq_true rfl) ?_
  refine mv_aload_n d_ArrayList_size_0 rfl rfl ?_
  refine mv_get d_ArrayList_size_1 f_ArrayList_48_0 hM rfl ?_
  exact mv_iret d_ArrayList_size_4 rfl rfl ⟨rfl, rfl, rfl⟩
theorem tc_L_pre {g : mj_G} {l : Launch} {d nx : Nat} {M : mj_M} {i n : Int32} (h0 : 0 ≤ i.toInt) (h1 : i.toInt < n.toInt) : mj_Met g l kY_Preconditions_checkIndex d [.int i, .int n, .null] M nx 0 0 (mj_E1 (some (.int i)) M nx) := by
  refine mj_enter (by decide) (Nat.le_of_ble_eq_true rfl) ?_
  refine mv_iload_n d_Preconditions_checkIndex_0 rfl rfl ?_
  refine mv_if_ltZ (tgt := 9) (a := i.toInt) d_Preconditions_checkIndex_1 (by decide) rfl (fun h => absurd h (by omega)) (fun _ => ?_)
  refine mv_iload_n d_Preconditions_checkIndex_4 rfl rfl ?_
  refine mv_iload_n d_Preconditions_checkIndex_5 rfl rfl ?_
  refine mv_icmp_ltZ (tgt := 16) (a := i.toInt) (b := n.toInt) d_Preconditions_checkIndex_6 (by decide) rfl rfl (fun _ => ?_) (fun h => absurd h (by omega))
  refine mv_iload_n d_Preconditions_checkIndex_16 rfl rfl ?_
  exact mv_iret d_Preconditions_checkIndex_17 rfl rfl ⟨rfl, rfl, rfl⟩
theorem tc_L_chk {g : mj_G} {l : Launch} {d nx : Nat} {M : mj_M} {i n : Int32} (h0 : 0 ≤ i.toInt) (h1 : i.toInt < n.toInt) : mj_Met g l kY_Objects_checkIndex (d + 1) [.int i, .int n] M nx 0 0 (mj_E1 (some (.int i)) M nx) := by
  refine mj_enter (by decide) (Nat.le_of_ble_eq_true rfl) ?_
  refine mv_iload_n d_Objects_checkIndex_0 rfl rfl ?_
  refine mv_iload_n d_Objects_checkIndex_1 rfl rfl ?_
  refine mv_null d_Objects_checkIndex_2 ?_
  refine mv_callS_s (kc' := 0) (ks' := 0) [.int i, .int n, .null] [.null, .int n, .int i] d_Objects_checkIndex_3 lS_Objects_105 (tc_L_pre (d := d) h0 h1) rfl (Nat.le_of_ble_eq_true rfl) (Nat.le_of_ble_eq_true rfl) (Nat.le_of_ble_eq_true rfl) rfl ?_
  exact mv_iret d_Objects_checkIndex_6 rfl rfl ⟨rfl, rfl, rfl⟩
theorem tc_L_el {g : mj_G} {l : Launch} {d nx : Nat} {M : mj_M} {a e N b : Nat} {m n i : Int32} {f : Nat → Option Nat} (hM : M a = some (.inr (0, [.int m, .ref e, .int n]))) (hE : M e = some (.inl (4, N, .inr (.inr (.inr (.inr f)))))) (hi : vp_in i N) (hf : f i.toNatClampNeg = some b) : mj_Met g l kY_ArrayList_elementData d [.ref a, .int i] M nx 0 0 (mj_E1 (some (.ref b)) M nx) := by
  refine mj_enter (by decide) (Nat.le_of_ble_eq_true rfl) ?_
  refine mv_aload_n d_ArrayList_elementData_0 rfl rfl ?_
  refine mv_get d_ArrayList_elementData_1 f_ArrayList_9_0 hM rfl ?_
  refine mv_iload_n d_ArrayList_elementData_4 rfl rfl ?_
  refine mv_aald (r := some b) d_ArrayList_elementData_5 hE hi hf ?_
  exact mv_aret (r := some b) d_ArrayList_elementData_6 rfl (by first | exact Or.inl ⟨_, rfl⟩ | exact Or.inr ⟨_, rfl⟩) ⟨rfl, rfl, rfl⟩
theorem tc_L_get {g : mj_G} {l : Launch} {d nx : Nat} {M : mj_M} {a e N b : Nat} {m n i : Int32} {f : Nat → Option Nat} (hM : M a = some (.inr (0, [.int m, .ref e, .int n]))) (hE : M e = some (.inl (4, N, .inr (.inr (.inr (.inr f)))))) (h0 : 0 ≤ i.toInt) (h1 : i.toInt < n.toInt) (hi : vp_in i N) (hf : f i.toNatClampNeg = some b) : mj_Met g l kY_ArrayList_get (d + 2) [.ref a, .int i] M nx 0 0 (mj_E1 (some (.ref b)) M nx) := by
  refine mj_enter (by decide) (Nat.le_of_ble_eq_true rfl) ?_
  refine mv_iload_n d_ArrayList_get_0 rfl rfl ?_
  refine mv_aload_n d_ArrayList_get_1 rfl rfl ?_
  refine mv_get d_ArrayList_get_2 f_ArrayList_48_0 hM rfl ?_
  refine mv_callS_s (kc' := 0) (ks' := 0) [.int i, .int n] [.int n, .int i] d_ArrayList_get_5 lS_ArrayList_118 (tc_L_chk (d := d) h0 h1) rfl (Nat.le_of_ble_eq_true rfl) (Nat.le_of_ble_eq_true rfl) (Nat.le_of_ble_eq_true rfl) rfl ?_
  refine mv_pop d_ArrayList_get_8 rfl ?_
  refine mv_aload_n d_ArrayList_get_9 rfl rfl ?_
  refine mv_iload_n d_ArrayList_get_10 rfl rfl ?_
  refine mv_callV_s (kc' := 0) (ks' := 0) [.int i] [.int i, .ref a] d_ArrayList_get_11 lV_ArrayList_123 hM rfl (tc_L_el (d := d + 1) hM hE hi hf) rfl (Nat.le_of_ble_eq_true rfl) (Nat.le_of_ble_eq_true rfl) (Nat.le_of_ble_eq_true rfl) rfl ?_
  exact mv_aret (r := some b) d_ArrayList_get_14 rfl (by first | exact Or.inl ⟨_, rfl⟩ | exact Or.inr ⟨_, rfl⟩) ⟨rfl, rfl, rfl⟩
theorem mz_nat {i : Int32} (h : 0 ≤ i.toInt) : (i.toNatClampNeg : Int) = i.toInt := by
  obtain ⟨j, hj, rfl⟩ := nI_of (x := i) (by rw [Int32.lt_iff_toInt_lt]; show ¬ i.toInt < 0; omega)
  rw [nI_toInt hj, nI_clamp hj]
theorem tm_el {T : tm_H} {M : mj_M} {a c e N : Nat} {m n i : Int32} {f : Nat → Option Nat} (h : tm_ls T M a c m n e N f) (h0 : 0 ≤ i.toInt) (h1 : i.toInt < n.toInt) : M e = some (.inl (4, N, .inr (.inr (.inr (.inr f))))) ∧ vp_in i N ∧ ∃ b, f i.toNatClampNeg = some b ∧ T b = some (0, c, 0) := by
  obtain ⟨e1, e2, e3, e4, e5, e6, e7⟩ := h
  refine ⟨?_, vp_in_iff.mpr (by omega), e7 _ (by rw [mz_nat h0]; exact h1)⟩
  rcases e6 with ⟨-, e6⟩ | ⟨-, e6, -⟩
  · omega
  · exact e6
theorem tm_rl {i : Int32} (h0 : 0 ≤ i.toInt) (h1 : i.toInt < 6) : ∃ v : Int32, mj_rl.getD i.toNatClampNeg .null = .int v := by
  have h := mz_nat h0
  rcases (show i.toNatClampNeg = 0 ∨ i.toNatClampNeg = 1 ∨ i.toNatClampNeg = 2 ∨ i.toNatClampNeg = 3 ∨ i.toNatClampNeg = 4 ∨ i.toNatClampNeg = 5 by omega) with h | h | h | h | h | h <;> (rw [h]; exact ⟨_, rfl⟩)
theorem tm_rm {i : Int32} (h0 : 0 ≤ i.toInt) (h1 : i.toInt < 6) : ∃ v : Int32, mj_rm.getD i.toNatClampNeg .null = .int v := by
  have h := mz_nat h0
  rcases (show i.toNatClampNeg = 0 ∨ i.toNatClampNeg = 1 ∨ i.toNatClampNeg = 2 ∨ i.toNatClampNeg = 3 ∨ i.toNatClampNeg = 4 ∨ i.toNatClampNeg = 5 by omega) with h | h | h | h | h | h <;> (rw [h]; exact ⟨_, rfl⟩)
abbrev kY_TrustDesk_account : mj_Y := (⟨"TrustDesk", "account", "(II)I"⟩, prog_1_method_56_code, 6, (Option.some Jvm.ClassFile.FieldType.int))
theorem d_TrustDesk_account_0 : decode kY_TrustDesk_account.2.1 0 = .ok (.aload_n 0, 1) := by decide +kernel
theorem d_TrustDesk_account_1 : decode kY_TrustDesk_account.2.1 1 = .ok (.iload_n 1, 1) := by decide +kernel
theorem d_TrustDesk_account_2 : decode kY_TrustDesk_account.2.1 2 = .ok (.invokevirtual 257, 3) := by decide +kernel
abbrev kY_TrustDesk_fundAt : mj_Y := (⟨"TrustDesk", "fundAt", "(I)LTrustDesk$Fund;"⟩, prog_1_method_60_code, 2, (Option.some (Jvm.ClassFile.FieldType.object "TrustDesk$Fund")))
theorem d_TrustDesk_fundAt_0 : decode kY_TrustDesk_fundAt.2.1 0 = .ok (.iload_n 1, 1) := by decide +kernel
theorem d_TrustDesk_fundAt_1 : decode kY_TrustDesk_fundAt.2.1 1 = .ok (.ifCond .lt 28, 3) := by decide +kernel
theorem d_TrustDesk_fundAt_29 : decode kY_TrustDesk_fundAt.2.1 29 = .ok (.aconst_null, 1) := by decide +kernel
theorem d_TrustDesk_fundAt_30 : decode kY_TrustDesk_fundAt.2.1 30 = .ok (.areturn, 1) := by decide +kernel
theorem d_TrustDesk_fundAt_4 : decode kY_TrustDesk_fundAt.2.1 4 = .ok (.iload_n 1, 1) := by decide +kernel
theorem d_TrustDesk_fundAt_5 : decode kY_TrustDesk_fundAt.2.1 5 = .ok (.aload_n 0, 1) := by decide +kernel
theorem d_TrustDesk_fundAt_6 : decode kY_TrustDesk_fundAt.2.1 6 = .ok (.getfield 53, 3) := by decide +kernel
theorem f_TrustDesk_53_12 : mj_fl "TrustDesk" 53 12 6 := ⟨kR_TrustDesk, kF_TrustDesk, 13, "TrustDesk", rfl, kg_12, by decide, (mj_in1 (List.mem_of_getElem? (i := 273) (by decide +kernel)) rfl), Or.inl rfl⟩
theorem d_TrustDesk_fundAt_9 : decode kY_TrustDesk_fundAt.2.1 9 = .ok (.invokevirtual 97, 3) := by decide +kernel
theorem lV_TrustDesk_97 : mj_lV "TrustDesk" 97 kY_ArrayList_size 0 := ⟨⟨(mj_in1 (List.mem_of_getElem? (i := 353) (by decide +kernel)) rfl), (mj_in1 (List.mem_of_getElem? (i := 9) (by decide +kernel)) rfl), (mj_in1 (List.mem_of_getElem? (i := 356) (by decide +kernel)) rfl), by decide, rfl, by decide⟩, (mj_in1 (List.mem_of_getElem? (i := 354) (by decide +kernel)) rfl), (mj_in1 (List.mem_of_getElem? (i := 355) (by decide +kernel)) rfl)⟩
theorem d_TrustDesk_fundAt_12 : decode kY_TrustDesk_fundAt.2.1 12 = .ok (.if_icmp .ge 17, 3) := by decide +kernel
theorem d_TrustDesk_fundAt_15 : decode kY_TrustDesk_fundAt.2.1 15 = .ok (.aload_n 0, 1) := by decide +kernel
theorem d_TrustDesk_fundAt_16 : decode kY_TrustDesk_fundAt.2.1 16 = .ok (.getfield 53, 3) := by decide +kernel
theorem d_TrustDesk_fundAt_19 : decode kY_TrustDesk_fundAt.2.1 19 = .ok (.iload_n 1, 1) := by decide +kernel
theorem d_TrustDesk_fundAt_20 : decode kY_TrustDesk_fundAt.2.1 20 = .ok (.invokevirtual 158, 3) := by decide +kernel
theorem lV_TrustDesk_158 : mj_lV "TrustDesk" 158 kY_ArrayList_get 1 := ⟨⟨(mj_in1 (List.mem_of_getElem? (i := 634) (by decide +kernel)) rfl), (mj_in1 (List.mem_of_getElem? (i := 9) (by decide +kernel)) rfl), (mj_in1 (List.mem_of_getElem? (i := 637) (by decide +kernel)) rfl), by decide, rfl, by decide⟩, (mj_in1 (List.mem_of_getElem? (i := 635) (by decide +kernel)) rfl), (mj_in1 (List.mem_of_getElem? (i := 636) (by decide +kernel)) rfl)⟩
theorem d_TrustDesk_fundAt_23 : decode kY_TrustDesk_fundAt.2.1 23 = .ok (.checkcast 123, 3) := by decide +kernel
theorem d_TrustDesk_fundAt_26 : decode kY_TrustDesk_fundAt.2.1 26 = .ok (.goto 4, 3) := by decide +kernel
def w_TrustDesk_fundAt : List Nat := []
theorem tc_TrustDesk_fundAt {g : mj_G} {l : Launch} {d : Nat} {T0 : tm_H} {M0 : mj_M} {n0 x9 : Nat} {o0 : Nat} {x1 : Int32} (h_o0 : T0 o0 = some (0, 12, 0)) (I0 : tm_I tm_FT (tm_in w_TrustDesk_fundAt) x9 T0 M0 n0 T0 M0 n0) : mj_Met g l kY_TrustDesk_fundAt (d + 3) [.ref o0, .int x1] M0 n0 0 0 (tm_Q tm_FT (tm_in w_TrustDesk_fundAt) x9 T0 M0 n0 (fun r T _ => r = some .null ∨ ∃ b, r = some (.ref b) ∧ T b = some (0, 6, 0))) := by
  refine mj_enter (by decide) (Nat.le_of_ble_eq_true rfl) ?_
  refine mv_iload_n d_TrustDesk_fundAt_0 rfl rfl ?_
  have := mz_hi x1
  refine mv_if_ltZ (tgt := 29) (a := x1.toInt) d_TrustDesk_fundAt_1 (by decide) rfl (fun b1 => ?_) (fun b1 => ?_)
  · refine mv_null d_TrustDesk_fundAt_29 ?_
    exact mv_aret (r := none) d_TrustDesk_fundAt_30 rfl (by first | exact Or.inl ⟨_, rfl⟩ | exact Or.inr ⟨_, rfl⟩) ⟨_, I0, Or.inl rfl⟩
  · refine mv_iload_n d_TrustDesk_fundAt_4 rfl rfl ?_
    refine mv_aload_n d_TrustDesk_fundAt_5 rfl rfl ?_
    obtain ⟨a3, q2, t_a3⟩ := tm_atO I0 h_o0 (k := 6) rfl
    refine tr_getK q2 d_TrustDesk_fundAt_6 f_TrustDesk_53_12 ?_
    obtain ⟨m5, n6, e7, N8, f9, h4⟩ := I0.1 _ _ t_a3
    have := h4.2.1
    have : n6.toInt ≤ 12 := h4.2.2.1
    refine mv_callV_s (kc' := 0) (ks' := 0) [] [.ref a3, .int x1] d_TrustDesk_fundAt_9 lV_TrustDesk_97 h4.1 rfl (tc_L_size (d := (d + 2)) h4.1) rfl (Nat.le_of_ble_eq_true rfl) (Nat.le_of_ble_eq_true rfl) (Nat.le_of_ble_eq_true rfl) rfl ?_
    have := mz_hi x1
    have := mz_hi n6
    refine mv_icmp_geZ (tgt := 29) (a := x1.toInt) (b := n6.toInt) d_TrustDesk_fundAt_12 (by decide) rfl rfl (fun b10 => ?_) (fun b10 => ?_)
    · refine mv_null d_TrustDesk_fundAt_29 ?_
      exact mv_aret (r := none) d_TrustDesk_fundAt_30 rfl (by first | exact Or.inl ⟨_, rfl⟩ | exact Or.inr ⟨_, rfl⟩) ⟨_, I0, Or.inl rfl⟩
    · refine mv_aload_n d_TrustDesk_fundAt_15 rfl rfl ?_
      refine tr_getK (k := 6) q2 d_TrustDesk_fundAt_16 f_TrustDesk_53_12 ?_
      refine mv_iload_n d_TrustDesk_fundAt_19 rfl rfl ?_
      obtain ⟨u11e, u11i, a12, u11f, u11t⟩ := tm_el (i := x1) h4 (by omega) (by omega)
      have t_a12 : T0 a12 = some (0, 6, 0) := u11t
      refine mv_callV_s (kc' := 0) (ks' := 0) [.int x1] [.int x1, .ref a3] d_TrustDesk_fundAt_20 lV_TrustDesk_158 h4.1 rfl (tc_L_get (d := d) h4.1 u11e (by omega) (by omega) u11i u11f) rfl (Nat.le_of_ble_eq_true rfl) (Nat.le_of_ble_eq_true rfl) (Nat.le_of_ble_eq_true rfl) rfl ?_
      obtain ⟨_, b13, -⟩ := I0.1 _ _ t_a12
      refine mv_castS (T9 := kF_Fund) (N := 15) d_TrustDesk_fundAt_23 (mj_in1 (List.mem_of_getElem? (i := 655) (by decide +kernel)) rfl) b13 rfl ?_
      refine mv_goto (tgt := 30) d_TrustDesk_fundAt_26 (by decide) ?_
      exact mv_aret (r := some a12) d_TrustDesk_fundAt_30 rfl (by first | exact Or.inl ⟨_, rfl⟩ | exact Or.inr ⟨_, rfl⟩) ⟨_, I0, Or.inr ⟨_, rfl, t_a12⟩⟩
theorem lV_TrustDesk_257 : mj_lV "TrustDesk" 257 kY_TrustDesk_fundAt 1 := ⟨⟨(mj_in1 (List.mem_of_getElem? (i := 938) (by decide +kernel)) rfl), (mj_in1 (List.mem_of_getElem? (i := 1) (by decide +kernel)) rfl), (mj_in1 (List.mem_of_getElem? (i := 941) (by decide +kernel)) rfl), by decide, rfl, by decide⟩, (mj_in1 (List.mem_of_getElem? (i := 940) (by decide +kernel)) rfl), (mj_in (List.mem_append_left _ (List.mem_of_getElem? (i := 49) (by decide +kernel))) rfl)⟩
theorem d_TrustDesk_account_5 : decode kY_TrustDesk_account.2.1 5 = .ok (.astore_n 3, 1) := by decide +kernel
theorem d_TrustDesk_account_6 : decode kY_TrustDesk_account.2.1 6 = .ok (.aload_n 3, 1) := by decide +kernel
theorem d_TrustDesk_account_7 : decode kY_TrustDesk_account.2.1 7 = .ok (.ifnull 39, 3) := by decide +kernel
theorem d_TrustDesk_account_46 : decode kY_TrustDesk_account.2.1 46 = .ok (.iconst (-1), 1) := by decide +kernel
theorem d_TrustDesk_account_47 : decode kY_TrustDesk_account.2.1 47 = .ok (.ireturn, 1) := by decide +kernel
theorem d_TrustDesk_account_10 : decode kY_TrustDesk_account.2.1 10 = .ok (.iload_n 2, 1) := by decide +kernel
theorem d_TrustDesk_account_11 : decode kY_TrustDesk_account.2.1 11 = .ok (.invokestatic 70, 3) := by decide +kernel
abbrev kY_TrustDesk_isYear : mj_Y := (⟨"TrustDesk", "isYear", "(I)Z"⟩, prog_1_method_66_code, 1, (Option.some Jvm.ClassFile.FieldType.boolean))
theorem d_TrustDesk_isYear_0 : decode kY_TrustDesk_isYear.2.1 0 = .ok (.iload_n 0, 1) := by decide +kernel
theorem d_TrustDesk_isYear_1 : decode kY_TrustDesk_isYear.2.1 1 = .ok (.ifCond .lt 13, 3) := by decide +kernel
theorem d_TrustDesk_isYear_14 : decode kY_TrustDesk_isYear.2.1 14 = .ok (.iconst 0, 1) := by decide +kernel
theorem d_TrustDesk_isYear_15 : decode kY_TrustDesk_isYear.2.1 15 = .ok (.ireturn, 1) := by decide +kernel
theorem d_TrustDesk_isYear_4 : decode kY_TrustDesk_isYear.2.1 4 = .ok (.iload_n 0, 1) := by decide +kernel
theorem d_TrustDesk_isYear_5 : decode kY_TrustDesk_isYear.2.1 5 = .ok (.bipush 100, 2) := by decide +kernel
theorem d_TrustDesk_isYear_7 : decode kY_TrustDesk_isYear.2.1 7 = .ok (.if_icmp .gt 7, 3) := by decide +kernel
theorem d_TrustDesk_isYear_10 : decode kY_TrustDesk_isYear.2.1 10 = .ok (.iconst 1, 1) := by decide +kernel
theorem d_TrustDesk_isYear_11 : decode kY_TrustDesk_isYear.2.1 11 = .ok (.goto 4, 3) := by decide +kernel
def w_TrustDesk_isYear : List Nat := []
theorem tc_TrustDesk_isYear {g : mj_G} {l : Launch} {d : Nat} {T0 : tm_H} {M0 : mj_M} {n0 x9 : Nat} {x1 : Int32} (I0 : tm_I tm_FT (tm_in w_TrustDesk_isYear) x9 T0 M0 n0 T0 M0 n0) : mj_Met g l kY_TrustDesk_isYear d [.int x1] M0 n0 0 0 (tm_Q tm_FT (tm_in w_TrustDesk_isYear) x9 T0 M0 n0 (fun r _ _ => ∃ v : Int32, r = some (.int v) ∧ 0 ≤ v.toInt ∧ v.toInt ≤ 1)) := by
  refine mj_enter (by decide) (Nat.le_of_ble_eq_true rfl) ?_
  refine mv_iload_n d_TrustDesk_isYear_0 rfl rfl ?_
  have := mz_hi x1
  refine mv_if_ltZ (tgt := 14) (a := x1.toInt) d_TrustDesk_isYear_1 (by decide) rfl (fun b1 => ?_) (fun b1 => ?_)
  · refine mv_iconst (v := 0) d_TrustDesk_isYear_14 (by decide) ?_
    exact mv_iret d_TrustDesk_isYear_15 rfl (by decide) ⟨_, I0, _, rfl, by decide, by decide⟩
  · refine mv_iload_n d_TrustDesk_isYear_4 rfl rfl ?_
    refine mv_bipush (v := 100) d_TrustDesk_isYear_5 (by decide) ?_
    have := mz_hi x1
    refine mv_icmp_gtZ (tgt := 14) (a := x1.toInt) (b := 100) d_TrustDesk_isYear_7 (by decide) rfl (by decide) (fun b2 => ?_) (fun b2 => ?_)
    · refine mv_iconst (v := 0) d_TrustDesk_isYear_14 (by decide) ?_
      exact mv_iret d_TrustDesk_isYear_15 rfl (by decide) ⟨_, I0, _, rfl, by decide, by decide⟩
    · refine mv_iconst (v := 1) d_TrustDesk_isYear_10 (by decide) ?_
      refine mv_goto (tgt := 15) d_TrustDesk_isYear_11 (by decide) ?_
      exact mv_iret d_TrustDesk_isYear_15 rfl (by decide) ⟨_, I0, _, rfl, by decide, by decide⟩
theorem lS_TrustDesk_70 : mj_lS "TrustDesk" 70 kY_TrustDesk_isYear 1 := ⟨⟨(mj_in1 (List.mem_of_getElem? (i := 314) (by decide +kernel)) rfl), (mj_in1 (List.mem_of_getElem? (i := 1) (by decide +kernel)) rfl), (mj_in1 (List.mem_of_getElem? (i := 316) (by decide +kernel)) rfl), by decide, rfl, by decide⟩, (mj_in1 (List.mem_of_getElem? (i := 315) (by decide +kernel)) rfl)⟩
theorem d_TrustDesk_account_14 : decode kY_TrustDesk_account.2.1 14 = .ok (.ifCond .eq 32, 3) := by decide +kernel
theorem d_TrustDesk_account_17 : decode kY_TrustDesk_account.2.1 17 = .ok (.iload_n 2, 1) := by decide +kernel
theorem d_TrustDesk_account_18 : decode kY_TrustDesk_account.2.1 18 = .ok (.invokestatic 151, 3) := by decide +kernel
abbrev kY_TrustDesk_lastDayOf : mj_Y := (⟨"TrustDesk", "lastDayOf", "(I)I"⟩, prog_1_method_71_code, 1, (Option.some Jvm.ClassFile.FieldType.int))
theorem d_TrustDesk_lastDayOf_0 : decode kY_TrustDesk_lastDayOf.2.1 0 = .ok (.iload_n 0, 1) := by decide +kernel
theorem d_TrustDesk_lastDayOf_1 : decode kY_TrustDesk_lastDayOf.2.1 1 = .ok (.sipush 360, 3) := by decide +kernel
theorem d_TrustDesk_lastDayOf_4 : decode kY_TrustDesk_lastDayOf.2.1 4 = .ok (.imul, 1) := by decide +kernel
theorem d_TrustDesk_lastDayOf_5 : decode kY_TrustDesk_lastDayOf.2.1 5 = .ok (.sipush 360, 3) := by decide +kernel
theorem d_TrustDesk_lastDayOf_8 : decode kY_TrustDesk_lastDayOf.2.1 8 = .ok (.iadd, 1) := by decide +kernel
theorem d_TrustDesk_lastDayOf_9 : decode kY_TrustDesk_lastDayOf.2.1 9 = .ok (.iconst 1, 1) := by decide +kernel
theorem d_TrustDesk_lastDayOf_10 : decode kY_TrustDesk_lastDayOf.2.1 10 = .ok (.isub, 1) := by decide +kernel
theorem d_TrustDesk_lastDayOf_11 : decode kY_TrustDesk_lastDayOf.2.1 11 = .ok (.ireturn, 1) := by decide +kernel
def w_TrustDesk_lastDayOf : List Nat := []
theorem tc_TrustDesk_lastDayOf {g : mj_G} {l : Launch} {d : Nat} {T0 : tm_H} {M0 : mj_M} {n0 x9 : Nat} {x1 : Int32} (I0 : tm_I tm_FT (tm_in w_TrustDesk_lastDayOf) x9 T0 M0 n0 T0 M0 n0) : mj_Met g l kY_TrustDesk_lastDayOf d [.int x1] M0 n0 0 0 (tm_Q tm_FT (tm_in w_TrustDesk_lastDayOf) x9 T0 M0 n0 (fun r _ _ => ∃ v : Int32, r = some (.int v))) := by
  refine mj_enter (by decide) (Nat.le_of_ble_eq_true rfl) ?_
  refine mv_iload_n d_TrustDesk_lastDayOf_0 rfl rfl ?_
  refine mv_sipush (v := 360) d_TrustDesk_lastDayOf_1 (by decide) ?_
  refine mv_imul d_TrustDesk_lastDayOf_4 ?_
  refine mv_sipush (v := 360) d_TrustDesk_lastDayOf_5 (by decide) ?_
  refine mv_iadd d_TrustDesk_lastDayOf_8 ?_
  refine mv_iconst (v := 1) d_TrustDesk_lastDayOf_9 (by decide) ?_
  refine mv_isub d_TrustDesk_lastDayOf_10 ?_
  exact mv_iret d_TrustDesk_lastDayOf_11 rfl (by first | rfl | decide) ⟨_, I0, _, rfl⟩
theorem lS_TrustDesk_151 : mj_lS "TrustDesk" 151 kY_TrustDesk_lastDayOf 1 := ⟨⟨(mj_in1 (List.mem_of_getElem? (i := 848) (by decide +kernel)) rfl), (mj_in1 (List.mem_of_getElem? (i := 1) (by decide +kernel)) rfl), (mj_in1 (List.mem_of_getElem? (i := 850) (by decide +kernel)) rfl), by decide, rfl, by decide⟩, (mj_in1 (List.mem_of_getElem? (i := 849) (by decide +kernel)) rfl)⟩
theorem d_TrustDesk_account_21 : decode kY_TrustDesk_account.2.1 21 = .ok (.aload_n 0, 1) := by decide +kernel
theorem d_TrustDesk_account_22 : decode kY_TrustDesk_account.2.1 22 = .ok (.getfield 73, 3) := by decide +kernel
theorem f_TrustDesk_73_12 : mj_fl "TrustDesk" 73 12 12 := ⟨kR_TrustDesk, kF_TrustDesk, 13, "TrustDesk", rfl, kg_12, by decide, (mj_in1 (List.mem_of_getElem? (i := 279) (by decide +kernel)) rfl), Or.inl rfl⟩
theorem d_TrustDesk_account_25 : decode kY_TrustDesk_account.2.1 25 = .ok (.if_icmp .ge 21, 3) := by decide +kernel
theorem d_TrustDesk_account_28 : decode kY_TrustDesk_account.2.1 28 = .ok (.aload_n 0, 1) := by decide +kernel
theorem d_TrustDesk_account_29 : decode kY_TrustDesk_account.2.1 29 = .ok (.getfield 509, 3) := by decide +kernel
theorem f_TrustDesk_509_12 : mj_fl "TrustDesk" 509 12 11 := ⟨kR_TrustDesk, kF_TrustDesk, 13, "TrustDesk", rfl, kg_12, by decide, (mj_in1 (List.mem_of_getElem? (i := 278) (by decide +kernel)) rfl), Or.inl rfl⟩
theorem d_TrustDesk_account_32 : decode kY_TrustDesk_account.2.1 32 = .ok (.sipush 200, 3) := by decide +kernel
theorem d_TrustDesk_account_35 : decode kY_TrustDesk_account.2.1 35 = .ok (.if_icmp .ge 11, 3) := by decide +kernel
theorem d_TrustDesk_account_38 : decode kY_TrustDesk_account.2.1 38 = .ok (.aload_n 3, 1) := by decide +kernel
theorem d_TrustDesk_account_39 : decode kY_TrustDesk_account.2.1 39 = .ok (.iload_n 2, 1) := by decide +kernel
theorem d_TrustDesk_account_40 : decode kY_TrustDesk_account.2.1 40 = .ok (.invokevirtual 512, 3) := by decide +kernel
abbrev kY_Fund_takeAccount : mj_Y := (⟨"TrustDesk$Fund", "takeAccount", "(I)Z"⟩, prog_7_method_13_code, 2, (Option.some Jvm.ClassFile.FieldType.boolean))
theorem d_Fund_takeAccount_0 : decode kY_Fund_takeAccount.2.1 0 = .ok (.iload_n 1, 1) := by decide +kernel
theorem d_Fund_takeAccount_1 : decode kY_Fund_takeAccount.2.1 1 = .ok (.ifCond .lt 18, 3) := by decide +kernel
theorem d_Fund_takeAccount_19 : decode kY_Fund_takeAccount.2.1 19 = .ok (.iconst 0, 1) := by decide +kernel
theorem d_Fund_takeAccount_20 : decode kY_Fund_takeAccount.2.1 20 = .ok (.ireturn, 1) := by decide +kernel
theorem d_Fund_takeAccount_4 : decode kY_Fund_takeAccount.2.1 4 = .ok (.iload_n 1, 1) := by decide +kernel
theorem d_Fund_takeAccount_5 : decode kY_Fund_takeAccount.2.1 5 = .ok (.bipush 100, 2) := by decide +kernel
theorem d_Fund_takeAccount_7 : decode kY_Fund_takeAccount.2.1 7 = .ok (.if_icmp .gt 12, 3) := by decide +kernel
theorem d_Fund_takeAccount_10 : decode kY_Fund_takeAccount.2.1 10 = .ok (.aload_n 0, 1) := by decide +kernel
theorem d_Fund_takeAccount_11 : decode kY_Fund_takeAccount.2.1 11 = .ok (.getfield 36, 3) := by decide +kernel
theorem kg_6 : ∀ w ∈ u_ws kR_Fund kF_Fund 15, w ∈ mj_T := fun w h => mj_in1 (ki_Fund w h) (List.all_eq_true.mp (show (u_ws kR_Fund kF_Fund 15).all mj_good = true by decide +kernel) w h)
theorem f_Fund_36_6 : mj_fl "TrustDesk$Fund" 36 6 14 := ⟨kR_Fund, kF_Fund, 15, "TrustDesk$Fund", rfl, kg_6, by decide, (mj_in1 (List.mem_of_getElem? (i := 693) (by decide +kernel)) rfl), Or.inl rfl⟩
theorem d_Fund_takeAccount_14 : decode kY_Fund_takeAccount.2.1 14 = .ok (.iload_n 1, 1) := by decide +kernel
theorem d_Fund_takeAccount_15 : decode kY_Fund_takeAccount.2.1 15 = .ok (.baload, 1) := by decide +kernel
theorem d_Fund_takeAccount_16 : decode kY_Fund_takeAccount.2.1 16 = .ok (.ifCond .eq 5, 3) := by decide +kernel
theorem d_Fund_takeAccount_21 : decode kY_Fund_takeAccount.2.1 21 = .ok (.aload_n 0, 1) := by decide +kernel
theorem d_Fund_takeAccount_22 : decode kY_Fund_takeAccount.2.1 22 = .ok (.getfield 36, 3) := by decide +kernel
theorem d_Fund_takeAccount_25 : decode kY_Fund_takeAccount.2.1 25 = .ok (.iload_n 1, 1) := by decide +kernel
theorem d_Fund_takeAccount_26 : decode kY_Fund_takeAccount.2.1 26 = .ok (.iconst 1, 1) := by decide +kernel
theorem d_Fund_takeAccount_27 : decode kY_Fund_takeAccount.2.1 27 = .ok (.bastore, 1) := by decide +kernel
theorem d_Fund_takeAccount_28 : decode kY_Fund_takeAccount.2.1 28 = .ok (.iconst 1, 1) := by decide +kernel
theorem d_Fund_takeAccount_29 : decode kY_Fund_takeAccount.2.1 29 = .ok (.ireturn, 1) := by decide +kernel
def w_Fund_takeAccount : List Nat := [664]
theorem tc_Fund_takeAccount {g : mj_G} {l : Launch} {d : Nat} {T0 : tm_H} {M0 : mj_M} {n0 x9 : Nat} {o0 : Nat} {x1 : Int32} (h_o0 : T0 o0 = some (0, 6, 0)) (I0 : tm_I tm_FT (tm_in w_Fund_takeAccount) x9 T0 M0 n0 T0 M0 n0) : mj_Met g l kY_Fund_takeAccount d [.ref o0, .int x1] M0 n0 0 0 (tm_Q tm_FT (tm_in w_Fund_takeAccount) x9 T0 M0 n0 (fun r _ _ => ∃ v : Int32, r = some (.int v) ∧ 0 ≤ v.toInt ∧ v.toInt ≤ 1)) := by
  refine mj_enter (by decide) (Nat.le_of_ble_eq_true rfl) ?_
  refine mv_iload_n d_Fund_takeAccount_0 rfl rfl ?_
  have := mz_hi x1
  refine mv_if_ltZ (tgt := 19) (a := x1.toInt) d_Fund_takeAccount_1 (by decide) rfl (fun b1 => ?_) (fun b1 => ?_)
  · refine mv_iconst (v := 0) d_Fund_takeAccount_19 (by decide) ?_
    exact mv_iret d_Fund_takeAccount_20 rfl (by decide) ⟨_, I0, _, rfl, by decide, by decide⟩
  · refine mv_iload_n d_Fund_takeAccount_4 rfl rfl ?_
    refine mv_bipush (v := 100) d_Fund_takeAccount_5 (by decide) ?_
    have := mz_hi x1
    refine mv_icmp_gtZ (tgt := 19) (a := x1.toInt) (b := 100) d_Fund_takeAccount_7 (by decide) rfl (by decide) (fun b2 => ?_) (fun b2 => ?_)
    · refine mv_iconst (v := 0) d_Fund_takeAccount_19 (by decide) ?_
      exact mv_iret d_Fund_takeAccount_20 rfl (by decide) ⟨_, I0, _, rfl, by decide, by decide⟩
    · refine mv_aload_n d_Fund_takeAccount_10 rfl rfl ?_
      obtain ⟨a4, q3, t_a4⟩ := tm_atR I0 h_o0 (k := 14) rfl
      refine tr_getK q3 d_Fund_takeAccount_11 f_Fund_36_6 ?_
      refine mv_iload_n d_Fund_takeAccount_14 rfl rfl ?_
      refine tr_zald I0 t_a4 (by decide) d_Fund_takeAccount_15 (vp_in_iff.mpr (by omega)) (fun v5 => ?_)
      have := mz_hi v5
      refine mv_if_eqZ (tgt := 21) (a := v5.toInt) d_Fund_takeAccount_16 (by decide) rfl (fun b6 => ?_) (fun b6 => ?_)
      · refine mv_aload_n d_Fund_takeAccount_21 rfl rfl ?_
        refine tr_getK (k := 14) q3 d_Fund_takeAccount_22 f_Fund_36_6 ?_
        refine mv_iload_n d_Fund_takeAccount_25 rfl rfl ?_
        refine mv_iconst (v := 1) d_Fund_takeAccount_26 (by decide) ?_
        refine tr_zastK tm_okF I0 t_a4 (by decide) (Or.inl (by decide)) d_Fund_takeAccount_27 (vp_in_iff.mpr (by omega)) (fun M7 I8 K9 => ?_)
        refine mv_iconst (v := 1) d_Fund_takeAccount_28 (by decide) ?_
        exact mv_iret d_Fund_takeAccount_29 rfl (by decide) ⟨_, I8, _, rfl, by decide, by decide⟩
      · refine mv_iconst (v := 0) d_Fund_takeAccount_19 (by decide) ?_
        exact mv_iret d_Fund_takeAccount_20 rfl (by decide) ⟨_, I0, _, rfl, by decide, by decide⟩
theorem lV_TrustDesk_512 : mj_lV "TrustDesk" 512 kY_Fund_takeAccount 1 := ⟨⟨(mj_in1 (List.mem_of_getElem? (i := 1290) (by decide +kernel)) rfl), (mj_in1 (List.mem_of_getElem? (i := 21) (by decide +kernel)) rfl), (mj_in1 (List.mem_of_getElem? (i := 1293) (by decide +kernel)) rfl), by decide, rfl, by decide⟩, (mj_in1 (List.mem_of_getElem? (i := 1291) (by decide +kernel)) rfl), (mj_in1 (List.mem_of_getElem? (i := 1292) (by decide +kernel)) rfl)⟩
theorem d_TrustDesk_account_43 : decode kY_TrustDesk_account.2.1 43 = .ok (.ifCond .ne 5, 3) := by decide +kernel
theorem d_TrustDesk_account_48 : decode kY_TrustDesk_account.2.1 48 = .ok (.aload_n 0, 1) := by decide +kernel
theorem d_TrustDesk_account_49 : decode kY_TrustDesk_account.2.1 49 = .ok (.dup, 1) := by decide +kernel
theorem d_TrustDesk_account_50 : decode kY_TrustDesk_account.2.1 50 = .ok (.getfield 509, 3) := by decide +kernel
theorem d_TrustDesk_account_53 : decode kY_TrustDesk_account.2.1 53 = .ok (.iconst 1, 1) := by decide +kernel
theorem d_TrustDesk_account_54 : decode kY_TrustDesk_account.2.1 54 = .ok (.iadd, 1) := by decide +kernel
theorem d_TrustDesk_account_55 : decode kY_TrustDesk_account.2.1 55 = .ok (.putfield 509, 3) := by decide +kernel
theorem p_TrustDesk_509_12 : mj_fp "TrustDesk" 509 12 11 (kt_TrustDesk 11) false := ⟨kR_TrustDesk, kF_TrustDesk, 13, "TrustDesk", kt_TrustDesk, rfl, kg_12, by decide, (mj_in1 (List.mem_of_getElem? (i := 278) (by decide +kernel)) rfl), Or.inl rfl, kto_TrustDesk, kn_TrustDesk, rfl, rfl, fun h => by cases h⟩
theorem d_TrustDesk_account_58 : decode kY_TrustDesk_account.2.1 58 = .ok (.iload_n 2, 1) := by decide +kernel
theorem d_TrustDesk_account_59 : decode kY_TrustDesk_account.2.1 59 = .ok (.invokestatic 151, 3) := by decide +kernel
theorem d_TrustDesk_account_62 : decode kY_TrustDesk_account.2.1 62 = .ok (.istore 4, 2) := by decide +kernel
theorem d_TrustDesk_account_64 : decode kY_TrustDesk_account.2.1 64 = .ok (.aload_n 0, 1) := by decide +kernel
theorem d_TrustDesk_account_65 : decode kY_TrustDesk_account.2.1 65 = .ok (.getfield 73, 3) := by decide +kernel
theorem d_TrustDesk_account_68 : decode kY_TrustDesk_account.2.1 68 = .ok (.iload 4, 2) := by decide +kernel
theorem d_TrustDesk_account_70 : decode kY_TrustDesk_account.2.1 70 = .ok (.isub, 1) := by decide +kernel
theorem d_TrustDesk_account_71 : decode kY_TrustDesk_account.2.1 71 = .ok (.aload_n 0, 1) := by decide +kernel
theorem d_TrustDesk_account_72 : decode kY_TrustDesk_account.2.1 72 = .ok (.iload 4, 2) := by decide +kernel
theorem d_TrustDesk_account_74 : decode kY_TrustDesk_account.2.1 74 = .ok (.invokevirtual 114, 3) := by decide +kernel
abbrev kY_TrustDesk_inForce : mj_Y := (⟨"TrustDesk", "inForce", "(I)LTrustDesk$Act;"⟩, prog_1_method_64_code, 5, (Option.some (Jvm.ClassFile.FieldType.object "TrustDesk$Act")))
theorem d_TrustDesk_inForce_0 : decode kY_TrustDesk_inForce.2.1 0 = .ok (.aload_n 0, 1) := by decide +kernel
theorem d_TrustDesk_inForce_1 : decode kY_TrustDesk_inForce.2.1 1 = .ok (.getfield 42, 3) := by decide +kernel
theorem f_TrustDesk_42_12 : mj_fl "TrustDesk" 42 12 4 := ⟨kR_TrustDesk, kF_TrustDesk, 13, "TrustDesk", rfl, kg_12, by decide, (mj_in1 (List.mem_of_getElem? (i := 271) (by decide +kernel)) rfl), Or.inl rfl⟩
theorem d_TrustDesk_inForce_4 : decode kY_TrustDesk_inForce.2.1 4 = .ok (.astore_n 2, 1) := by decide +kernel
theorem d_TrustDesk_inForce_5 : decode kY_TrustDesk_inForce.2.1 5 = .ok (.iconst 0, 1) := by decide +kernel
theorem d_TrustDesk_inForce_6 : decode kY_TrustDesk_inForce.2.1 6 = .ok (.istore_n 3, 1) := by decide +kernel
theorem d_TrustDesk_inForce_7 : decode kY_TrustDesk_inForce.2.1 7 = .ok (.iload_n 3, 1) := by decide +kernel
theorem d_TrustDesk_inForce_8 : decode kY_TrustDesk_inForce.2.1 8 = .ok (.aload_n 0, 1) := by decide +kernel
theorem d_TrustDesk_inForce_9 : decode kY_TrustDesk_inForce.2.1 9 = .ok (.getfield 49, 3) := by decide +kernel
theorem f_TrustDesk_49_12 : mj_fl "TrustDesk" 49 12 5 := ⟨kR_TrustDesk, kF_TrustDesk, 13, "TrustDesk", rfl, kg_12, by decide, (mj_in1 (List.mem_of_getElem? (i := 272) (by decide +kernel)) rfl), Or.inl rfl⟩
theorem d_TrustDesk_inForce_12 : decode kY_TrustDesk_inForce.2.1 12 = .ok (.invokevirtual 97, 3) := by decide +kernel
theorem d_TrustDesk_inForce_15 : decode kY_TrustDesk_inForce.2.1 15 = .ok (.if_icmp .ge 46, 3) := by decide +kernel
theorem d_TrustDesk_inForce_61 : decode kY_TrustDesk_inForce.2.1 61 = .ok (.aload_n 2, 1) := by decide +kernel
theorem d_TrustDesk_inForce_62 : decode kY_TrustDesk_inForce.2.1 62 = .ok (.areturn, 1) := by decide +kernel
theorem d_TrustDesk_inForce_18 : decode kY_TrustDesk_inForce.2.1 18 = .ok (.aload_n 0, 1) := by decide +kernel
theorem d_TrustDesk_inForce_19 : decode kY_TrustDesk_inForce.2.1 19 = .ok (.getfield 49, 3) := by decide +kernel
theorem d_TrustDesk_inForce_22 : decode kY_TrustDesk_inForce.2.1 22 = .ok (.iload_n 3, 1) := by decide +kernel
theorem d_TrustDesk_inForce_23 : decode kY_TrustDesk_inForce.2.1 23 = .ok (.invokevirtual 158, 3) := by decide +kernel
theorem d_TrustDesk_inForce_26 : decode kY_TrustDesk_inForce.2.1 26 = .ok (.checkcast 37, 3) := by decide +kernel
theorem d_TrustDesk_inForce_29 : decode kY_TrustDesk_inForce.2.1 29 = .ok (.astore 4, 2) := by decide +kernel
theorem d_TrustDesk_inForce_31 : decode kY_TrustDesk_inForce.2.1 31 = .ok (.aload 4, 2) := by decide +kernel
theorem d_TrustDesk_inForce_33 : decode kY_TrustDesk_inForce.2.1 33 = .ok (.getfield 524, 3) := by decide +kernel
theorem f_TrustDesk_524_1 : mj_fl "TrustDesk" 524 1 0 := ⟨kR_Act, kF_Act, 5, "TrustDesk$Act", rfl, kg_1, by decide, (mj_in1 (List.mem_of_getElem? (i := 247) (by decide +kernel)) rfl), Or.inl rfl⟩
theorem d_TrustDesk_inForce_36 : decode kY_TrustDesk_inForce.2.1 36 = .ok (.iload_n 1, 1) := by decide +kernel
theorem d_TrustDesk_inForce_37 : decode kY_TrustDesk_inForce.2.1 37 = .ok (.if_icmp .gt 18, 3) := by decide +kernel
theorem d_TrustDesk_inForce_55 : decode kY_TrustDesk_inForce.2.1 55 = .ok (.iinc 3 1, 3) := by decide +kernel
theorem d_TrustDesk_inForce_58 : decode kY_TrustDesk_inForce.2.1 58 = .ok (.goto (-51), 3) := by decide +kernel
theorem d_TrustDesk_inForce_40 : decode kY_TrustDesk_inForce.2.1 40 = .ok (.aload 4, 2) := by decide +kernel
theorem d_TrustDesk_inForce_42 : decode kY_TrustDesk_inForce.2.1 42 = .ok (.getfield 524, 3) := by decide +kernel
theorem d_TrustDesk_inForce_45 : decode kY_TrustDesk_inForce.2.1 45 = .ok (.aload_n 2, 1) := by decide +kernel
theorem d_TrustDesk_inForce_46 : decode kY_TrustDesk_inForce.2.1 46 = .ok (.getfield 524, 3) := by decide +kernel
theorem d_TrustDesk_inForce_49 : decode kY_TrustDesk_inForce.2.1 49 = .ok (.if_icmp .lt 6, 3) := by decide +kernel
theorem d_TrustDesk_inForce_52 : decode kY_TrustDesk_inForce.2.1 52 = .ok (.aload 4, 2) := by decide +kernel
theorem d_TrustDesk_inForce_54 : decode kY_TrustDesk_inForce.2.1 54 = .ok (.astore_n 2, 1) := by decide +kernel
def w_TrustDesk_inForce : List Nat := []
theorem tc_TrustDesk_inForce {g : mj_G} {l : Launch} {d : Nat} {T0 : tm_H} {M0 : mj_M} {n0 x9 : Nat} {o0 : Nat} {x1 : Int32} (h_o0 : T0 o0 = some (0, 12, 0)) (I0 : tm_I tm_FT (tm_in w_TrustDesk_inForce) x9 T0 M0 n0 T0 M0 n0) : mj_Met g l kY_TrustDesk_inForce (d + 3) [.ref o0, .int x1] M0 n0 0 0 (tm_Q tm_FT (tm_in w_TrustDesk_inForce) x9 T0 M0 n0 (fun r T _ => ∃ b, r = some (.ref b) ∧ T b = some (0, 1, 0))) := by
  refine mj_enter (by decide) (Nat.le_of_ble_eq_true rfl) ?_
  refine mv_aload_n d_TrustDesk_inForce_0 rfl rfl ?_
  obtain ⟨a2, q1, t_a2⟩ := tm_atR I0 h_o0 (k := 4) rfl
  refine tr_getK q1 d_TrustDesk_inForce_1 f_TrustDesk_42_12 ?_
  refine mv_astore_n (lv' := [(2, .ref a2), (0, .ref o0), (1, .int x1)]) d_TrustDesk_inForce_4 rfl (by decide) rfl ?_
  refine mv_iconst (v := 0) d_TrustDesk_inForce_5 (by decide) ?_
  refine mv_istore_n (lv' := [(3, .int 0), (2, .ref a2), (0, .ref o0), (1, .int x1)]) d_TrustDesk_inForce_6 rfl (by decide) rfl ?_
  have L7_3 : ∀ (k : Nat) (i3_3 : Int32) (r2_3 : Nat) (T_3 : tm_H) (M_3 : mj_M) (n_3 : Nat), tm_I tm_FT (tm_in w_TrustDesk_inForce) x9 T0 M0 n0 T_3 M_3 n_3 → T_3 r2_3 = some (0, 1, 0) → T_3 o0 = some (0, 12, 0) → 0 ≤ i3_3.toInt → 2147483647 - i3_3.toInt < (k : Int) → mj_V g l kY_TrustDesk_inForce (d + 3) 7 [(3, .int i3_3), (2, .ref r2_3), (0, .ref o0), (1, .int x1)] [] M_3 n_3 0 0 (tm_Q tm_FT (tm_in w_TrustDesk_inForce) x9 T0 M0 n0 (fun r T _ => ∃ b, r = some (.ref b) ∧ T b = some (0, 1, 0))) := by
    intro k3
    induction k3 with
    | zero =>
      intro i3_3 r2_3 T_3 M_3 n_3 I_3 h_r2_3 h_q0_3 iv0_3 hk3
      have := mz_hi i3_3
      omega
    | succ k3 ih3 =>
      intro i3_3 r2_3 T_3 M_3 n_3 I_3 h_r2_3 h_q0_3 iv0_3 hk3
      refine mv_iload_n d_TrustDesk_inForce_7 rfl rfl ?_
      refine mv_aload_n d_TrustDesk_inForce_8 rfl rfl ?_
      obtain ⟨a5, q4, t_a5⟩ := tm_atO I_3 h_q0_3 (k := 5) rfl
      refine tr_getK q4 d_TrustDesk_inForce_9 f_TrustDesk_49_12 ?_
      obtain ⟨m7, n8, e9, N10, f11, h6⟩ := I_3.1 _ _ t_a5
      have := h6.2.1
      have : n8.toInt ≤ 20 := h6.2.2.1
      refine mv_callV_s (kc' := 0) (ks' := 0) [] [.ref a5, .int i3_3] d_TrustDesk_inForce_12 lV_TrustDesk_97 h6.1 rfl (tc_L_size (d := (d + 2)) h6.1) rfl (Nat.le_of_ble_eq_true rfl) (Nat.le_of_ble_eq_true rfl) (Nat.le_of_ble_eq_true rfl) rfl ?_
      have := mz_hi i3_3
      have := mz_hi n8
      refine mv_icmp_geZ (tgt := 61) (a := i3_3.toInt) (b := n8.toInt) d_TrustDesk_inForce_15 (by decide) rfl rfl (fun b12 => ?_) (fun b12 => ?_)
      · refine mv_aload_n d_TrustDesk_inForce_61 rfl rfl ?_
        exact mv_aret (r := some r2_3) d_TrustDesk_inForce_62 rfl (by first | exact Or.inl ⟨_, rfl⟩ | exact Or.inr ⟨_, rfl⟩) ⟨_, I_3, ⟨_, rfl, h_r2_3⟩⟩
      · refine mv_aload_n d_TrustDesk_inForce_18 rfl rfl ?_
        refine tr_getK (k := 5) q4 d_TrustDesk_inForce_19 f_TrustDesk_49_12 ?_
        refine mv_iload_n d_TrustDesk_inForce_22 rfl rfl ?_
        obtain ⟨u13e, u13i, a14, u13f, u13t⟩ := tm_el (i := i3_3) h6 (by omega) (by omega)
        have t_a14 : T_3 a14 = some (0, 1, 0) := u13t
        refine mv_callV_s (kc' := 0) (ks' := 0) [.int i3_3] [.int i3_3, .ref a5] d_TrustDesk_inForce_23 lV_TrustDesk_158 h6.1 rfl (tc_L_get (d := d) h6.1 u13e (by omega) (by omega) u13i u13f) rfl (Nat.le_of_ble_eq_true rfl) (Nat.le_of_ble_eq_true rfl) (Nat.le_of_ble_eq_true rfl) rfl ?_
        obtain ⟨_, b15, -⟩ := I_3.1 _ _ t_a14
        refine mv_castS (T9 := kF_Act) (N := 5) d_TrustDesk_inForce_26 (mj_in1 (List.mem_of_getElem? (i := 205) (by decide +kernel)) rfl) b15 rfl ?_
        refine mv_astore (lv' := [(4, .ref a14), (3, .int i3_3), (2, .ref r2_3), (0, .ref o0), (1, .int x1)]) d_TrustDesk_inForce_29 (by decide) rfl ?_
        refine mv_aload d_TrustDesk_inForce_31 rfl ?_
        obtain ⟨v17, q16⟩ := tm_atI I_3 t_a14 (k := 0) rfl
        refine tr_getK q16 d_TrustDesk_inForce_33 f_TrustDesk_524_1 ?_
        refine mv_iload_n d_TrustDesk_inForce_36 rfl rfl ?_
        have := mz_hi v17
        have := mz_hi x1
        refine mv_icmp_gtZ (tgt := 55) (a := v17.toInt) (b := x1.toInt) d_TrustDesk_inForce_37 (by decide) rfl rfl (fun b18 => ?_) (fun b18 => ?_)
        · refine mv_iinc (v := (i3_3 + 1)) (lv' := [(3, .int (i3_3 + 1)), (4, .ref a14), (2, .ref r2_3), (0, .ref o0), (1, .int x1)]) d_TrustDesk_inForce_55 rfl rfl (by decide) rfl ?_
          refine mv_goto (tgt := 7) d_TrustDesk_inForce_58 (by decide) ?_
          refine mv_locals (lv' := [(3, .int (i3_3 + 1)), (2, .ref r2_3), (0, .ref o0), (1, .int x1)]) (by intro q hq; simp only [List.mem_cons, List.not_mem_nil, or_false] at hq; rcases hq with rfl | rfl | rfl | rfl <;> rfl) ?_
          have b19 : (i3_3 + 1).toInt = i3_3.toInt + 1 := mz_addn 1 1 (by decide) (by have := mz_lo i3_3; omega) (by have := mz_hi i3_3; omega)
          exact ih3 (i3_3 + 1) r2_3 T_3 M_3 n_3 I_3 h_r2_3 h_q0_3 (by first | omega | decide) (by omega)
        · refine mv_aload d_TrustDesk_inForce_40 rfl ?_
          refine tr_getK (k := 0) q16 d_TrustDesk_inForce_42 f_TrustDesk_524_1 ?_
          refine mv_aload_n d_TrustDesk_inForce_45 rfl rfl ?_
          obtain ⟨v21, q20⟩ := tm_atI I_3 h_r2_3 (k := 0) rfl
          refine tr_getK q20 d_TrustDesk_inForce_46 f_TrustDesk_524_1 ?_
          have := mz_hi v17
          have := mz_hi v21
          refine mv_icmp_ltZ (tgt := 55) (a := v17.toInt) (b := v21.toInt) d_TrustDesk_inForce_49 (by decide) rfl rfl (fun b22 => ?_) (fun b22 => ?_)
          · refine mv_iinc (v := (i3_3 + 1)) (lv' := [(3, .int (i3_3 + 1)), (4, .ref a14), (2, .ref r2_3), (0, .ref o0), (1, .int x1)]) d_TrustDesk_inForce_55 rfl rfl (by decide) rfl ?_
            refine mv_goto (tgt := 7) d_TrustDesk_inForce_58 (by decide) ?_
            refine mv_locals (lv' := [(3, .int (i3_3 + 1)), (2, .ref r2_3), (0, .ref o0), (1, .int x1)]) (by intro q hq; simp only [List.mem_cons, List.not_mem_nil, or_false] at hq; rcases hq with rfl | rfl | rfl | rfl <;> rfl) ?_
            have b23 : (i3_3 + 1).toInt = i3_3.toInt + 1 := mz_addn 1 1 (by decide) (by have := mz_lo i3_3; omega) (by have := mz_hi i3_3; omega)
            exact ih3 (i3_3 + 1) r2_3 T_3 M_3 n_3 I_3 h_r2_3 h_q0_3 (by first | omega | decide) (by omega)
          · refine mv_aload d_TrustDesk_inForce_52 rfl ?_
            refine mv_astore_n (lv' := [(2, .ref a14), (4, .ref a14), (3, .int i3_3), (0, .ref o0), (1, .int x1)]) d_TrustDesk_inForce_54 rfl (by decide) rfl ?_
            refine mv_iinc (v := (i3_3 + 1)) (lv' := [(3, .int (i3_3 + 1)), (2, .ref a14), (4, .ref a14), (0, .ref o0), (1, .int x1)]) d_TrustDesk_inForce_55 rfl rfl (by decide) rfl ?_
            refine mv_goto (tgt := 7) d_TrustDesk_inForce_58 (by decide) ?_
            refine mv_locals (lv' := [(3, .int (i3_3 + 1)), (2, .ref a14), (0, .ref o0), (1, .int x1)]) (by intro q hq; simp only [List.mem_cons, List.not_mem_nil, or_false] at hq; rcases hq with rfl | rfl | rfl | rfl <;> rfl) ?_
            have b24 : (i3_3 + 1).toInt = i3_3.toInt + 1 := mz_addn 1 1 (by decide) (by have := mz_lo i3_3; omega) (by have := mz_hi i3_3; omega)
            exact ih3 (i3_3 + 1) a14 T_3 M_3 n_3 I_3 t_a14 h_q0_3 (by first | omega | decide) (by omega)
  exact L7_3 4294967296 0 a2 T0 M0 n0 I0 t_a2 h_o0 (by first | omega | decide) (by show (2147483647 : Int) - _ < _; decide)
theorem lV_TrustDesk_114 : mj_lV "TrustDesk" 114 kY_TrustDesk_inForce 1 := ⟨⟨(mj_in1 (List.mem_of_getElem? (i := 630) (by decide +kernel)) rfl), (mj_in1 (List.mem_of_getElem? (i := 1) (by decide +kernel)) rfl), (mj_in1 (List.mem_of_getElem? (i := 633) (by decide +kernel)) rfl), by decide, rfl, by decide⟩, (mj_in1 (List.mem_of_getElem? (i := 632) (by decide +kernel)) rfl), (mj_in (List.mem_append_left _ (List.mem_of_getElem? (i := 34) (by decide +kernel))) rfl)⟩
theorem d_TrustDesk_account_77 : decode kY_TrustDesk_account.2.1 77 = .ok (.iconst 3, 1) := by decide +kernel
theorem d_TrustDesk_account_78 : decode kY_TrustDesk_account.2.1 78 = .ok (.invokevirtual 118, 3) := by decide +kernel
abbrev kY_Act_rule : mj_Y := (⟨"TrustDesk$Act", "rule", "(I)I"⟩, prog_2_method_2_code, 2, (Option.some Jvm.ClassFile.FieldType.int))
theorem d_Act_rule_0 : decode kY_Act_rule.2.1 0 = .ok (.iload_n 1, 1) := by decide +kernel
theorem d_Act_rule_1 : decode kY_Act_rule.2.1 1 = .ok (.ifCond .lt 21, 3) := by decide +kernel
theorem d_Act_rule_22 : decode kY_Act_rule.2.1 22 = .ok (.iconst (-1), 1) := by decide +kernel
theorem d_Act_rule_23 : decode kY_Act_rule.2.1 23 = .ok (.ireturn, 1) := by decide +kernel
theorem d_Act_rule_4 : decode kY_Act_rule.2.1 4 = .ok (.iload_n 1, 1) := by decide +kernel
theorem d_Act_rule_5 : decode kY_Act_rule.2.1 5 = .ok (.aload_n 0, 1) := by decide +kernel
theorem d_Act_rule_6 : decode kY_Act_rule.2.1 6 = .ok (.getfield 27, 3) := by decide +kernel
theorem f_Act_27_1 : mj_fl "TrustDesk$Act" 27 1 3 := ⟨kR_Act, kF_Act, 5, "TrustDesk$Act", rfl, kg_1, by decide, (mj_in1 (List.mem_of_getElem? (i := 252) (by decide +kernel)) rfl), Or.inl rfl⟩
theorem d_Act_rule_9 : decode kY_Act_rule.2.1 9 = .ok (.arraylength, 1) := by decide +kernel
theorem d_Act_rule_10 : decode kY_Act_rule.2.1 10 = .ok (.if_icmp .ge 12, 3) := by decide +kernel
theorem d_Act_rule_13 : decode kY_Act_rule.2.1 13 = .ok (.aload_n 0, 1) := by decide +kernel
theorem d_Act_rule_14 : decode kY_Act_rule.2.1 14 = .ok (.getfield 27, 3) := by decide +kernel
theorem d_Act_rule_17 : decode kY_Act_rule.2.1 17 = .ok (.iload_n 1, 1) := by decide +kernel
theorem d_Act_rule_18 : decode kY_Act_rule.2.1 18 = .ok (.iaload, 1) := by decide +kernel
theorem d_Act_rule_19 : decode kY_Act_rule.2.1 19 = .ok (.goto 4, 3) := by decide +kernel
def w_Act_rule : List Nat := []
theorem tc_Act_rule {g : mj_G} {l : Launch} {d : Nat} {T0 : tm_H} {M0 : mj_M} {n0 x9 : Nat} {o0 : Nat} {x1 : Int32} (h_o0 : T0 o0 = some (0, 1, 0)) (I0 : tm_I tm_FT (tm_in w_Act_rule) x9 T0 M0 n0 T0 M0 n0) : mj_Met g l kY_Act_rule d [.ref o0, .int x1] M0 n0 0 0 (tm_Q tm_FT (tm_in w_Act_rule) x9 T0 M0 n0 (fun r _ _ => ∃ v : Int32, r = some (.int v))) := by
  refine mj_enter (by decide) (Nat.le_of_ble_eq_true rfl) ?_
  refine mv_iload_n d_Act_rule_0 rfl rfl ?_
  have := mz_hi x1
  refine mv_if_ltZ (tgt := 22) (a := x1.toInt) d_Act_rule_1 (by decide) rfl (fun b1 => ?_) (fun b1 => ?_)
  · refine mv_iconst (v := (-1)) d_Act_rule_22 (by decide) ?_
    exact mv_iret d_Act_rule_23 rfl (by first | rfl | decide) ⟨_, I0, _, rfl⟩
  · refine mv_iload_n d_Act_rule_4 rfl rfl ?_
    refine mv_aload_n d_Act_rule_5 rfl rfl ?_
    obtain ⟨a3, q2, t_a3⟩ := tm_atR I0 h_o0 (k := 3) rfl
    refine tr_getK q2 d_Act_rule_6 f_Act_27_1 ?_
    refine tr_alen (v := 6) I0 t_a3 (by decide) (by decide) d_Act_rule_9 ?_
    have := mz_hi x1
    refine mv_icmp_geZ (tgt := 22) (a := x1.toInt) (b := 6) d_Act_rule_10 (by decide) rfl (by decide) (fun b4 => ?_) (fun b4 => ?_)
    · refine mv_iconst (v := (-1)) d_Act_rule_22 (by decide) ?_
      exact mv_iret d_Act_rule_23 rfl (by first | rfl | decide) ⟨_, I0, _, rfl⟩
    · refine mv_aload_n d_Act_rule_13 rfl rfl ?_
      refine tr_getK (k := 3) q2 d_Act_rule_14 f_Act_27_1 ?_
      refine mv_iload_n d_Act_rule_17 rfl rfl ?_
      refine tr_iald I0 t_a3 (by decide) d_Act_rule_18 (vp_in_iff.mpr (by omega)) (fun v5 => ?_)
      refine mv_goto (tgt := 23) d_Act_rule_19 (by decide) ?_
      exact mv_iret d_Act_rule_23 rfl (by first | rfl | decide) ⟨_, I0, _, rfl⟩
theorem lV_TrustDesk_118 : mj_lV "TrustDesk" 118 kY_Act_rule 1 := ⟨⟨(mj_in1 (List.mem_of_getElem? (i := 646) (by decide +kernel)) rfl), (mj_in1 (List.mem_of_getElem? (i := 6) (by decide +kernel)) rfl), (mj_in1 (List.mem_of_getElem? (i := 649) (by decide +kernel)) rfl), by decide, rfl, by decide⟩, (mj_in1 (List.mem_of_getElem? (i := 647) (by decide +kernel)) rfl), (mj_in1 (List.mem_of_getElem? (i := 648) (by decide +kernel)) rfl)⟩
theorem d_TrustDesk_account_81 : decode kY_TrustDesk_account.2.1 81 = .ok (.isub, 1) := by decide +kernel
theorem d_TrustDesk_account_82 : decode kY_TrustDesk_account.2.1 82 = .ok (.istore 5, 2) := by decide +kernel
theorem d_TrustDesk_account_84 : decode kY_TrustDesk_account.2.1 84 = .ok (.iload 5, 2) := by decide +kernel
theorem d_TrustDesk_account_86 : decode kY_TrustDesk_account.2.1 86 = .ok (.ifCond .le 8, 3) := by decide +kernel
theorem d_TrustDesk_account_94 : decode kY_TrustDesk_account.2.1 94 = .ok (.iconst 0, 1) := by decide +kernel
theorem d_TrustDesk_account_95 : decode kY_TrustDesk_account.2.1 95 = .ok (.ireturn, 1) := by decide +kernel
theorem d_TrustDesk_account_89 : decode kY_TrustDesk_account.2.1 89 = .ok (.iload 5, 2) := by decide +kernel
theorem d_TrustDesk_account_91 : decode kY_TrustDesk_account.2.1 91 = .ok (.goto 4, 3) := by decide +kernel
def w_TrustDesk_account : List Nat := [664, 1211]
theorem tc_TrustDesk_account {g : mj_G} {l : Launch} {d : Nat} {T0 : tm_H} {M0 : mj_M} {n0 x9 : Nat} {o0 : Nat} {x1 : Int32} {x2 : Int32} (h_o0 : T0 o0 = some (0, 12, 0)) (I0 : tm_I tm_FT (tm_in w_TrustDesk_account) x9 T0 M0 n0 T0 M0 n0) : mj_Met g l kY_TrustDesk_account (d + 4) [.ref o0, .int x1, .int x2] M0 n0 0 0 (tm_Q tm_FT (tm_in w_TrustDesk_account) x9 T0 M0 n0 (fun r _ _ => ∃ v : Int32, r = some (.int v))) := by
  refine mj_enter (by decide) (Nat.le_of_ble_eq_true rfl) ?_
  refine mv_aload_n d_TrustDesk_account_0 rfl rfl ?_
  refine mv_iload_n d_TrustDesk_account_1 rfl rfl ?_
  obtain ⟨_, b7, -⟩ := I0.1 _ _ h_o0
  refine mv_callV (kc' := 0) (ks' := 0) (As := [.int x1]) (st9 := [.int x1, .ref o0]) d_TrustDesk_account_2 lV_TrustDesk_257 b7 rfl (tc_TrustDesk_fundAt (d := d) (x9 := x9) (o0 := o0) (x1 := x1) h_o0 I0.start) rfl (Nat.le_of_ble_eq_true rfl) (Nat.le_of_ble_eq_true rfl) (Nat.le_of_ble_eq_true rfl) (hst := rfl) (fun b1r M2 n3 b1 => ?_)
  obtain ⟨T4, J5, b9⟩ := b1
  have I6 := I0.call J5 (tm_sub (by decide)) (Or.inl rfl)
  have t10 := J5.up h_o0
  rcases b9 with rfl | ⟨a8, rfl, t_a8⟩
  · refine mv_astore_nN (lv' := [(3, .null), (0, .ref o0), (1, .int x1), (2, .int x2)]) d_TrustDesk_account_5 rfl (by decide) rfl ?_
    refine mv_aload_nN d_TrustDesk_account_6 rfl rfl ?_
    refine mv_ifnullN (tgt := 46) d_TrustDesk_account_7 (by decide) ?_
    refine mv_iconst (v := (-1)) d_TrustDesk_account_46 (by decide) ?_
    exact mv_iret d_TrustDesk_account_47 rfl (by first | rfl | decide) ⟨_, I6, _, rfl⟩
  · refine mv_astore_n (lv' := [(3, .ref a8), (0, .ref o0), (1, .int x1), (2, .int x2)]) d_TrustDesk_account_5 rfl (by decide) rfl ?_
    refine mv_aload_n d_TrustDesk_account_6 rfl rfl ?_
    refine mv_ifnull d_TrustDesk_account_7 ?_
    refine mv_iload_n d_TrustDesk_account_10 rfl rfl ?_
    refine mv_callS (kc' := 0) (ks' := 0) (As := [.int x2]) (st9 := [.int x2]) d_TrustDesk_account_11 lS_TrustDesk_70 (tc_TrustDesk_isYear (d := (d + 3)) (x9 := x9) (x1 := x2)  I6.start) rfl (Nat.le_of_ble_eq_true rfl) (Nat.le_of_ble_eq_true rfl) (Nat.le_of_ble_eq_true rfl) (hst := rfl) (fun b11r M12 n13 b11 => ?_)
    obtain ⟨T14, J15, v17, rfl, b18, b19⟩ := b11
    have I16 := I6.call J15 (tm_sub (by decide)) (Or.inl rfl)
    have t20 := J15.up t_a8
    have t21 := J15.up t10
    have := mz_hi v17
    refine mv_if_eqZ (tgt := 46) (a := v17.toInt) d_TrustDesk_account_14 (by decide) rfl (fun b22 => ?_) (fun b22 => ?_)
    · refine mv_iconst (v := (-1)) d_TrustDesk_account_46 (by decide) ?_
      exact mv_iret d_TrustDesk_account_47 rfl (by first | rfl | decide) ⟨_, I16, _, rfl⟩
    · refine mv_iload_n d_TrustDesk_account_17 rfl rfl ?_
      refine mv_callS (kc' := 0) (ks' := 0) (As := [.int x2]) (st9 := [.int x2]) d_TrustDesk_account_18 lS_TrustDesk_151 (tc_TrustDesk_lastDayOf (d := (d + 3)) (x9 := x9) (x1 := x2)  I16.start) rfl (Nat.le_of_ble_eq_true rfl) (Nat.le_of_ble_eq_true rfl) (Nat.le_of_ble_eq_true rfl) (hst := rfl) (fun b23r M24 n25 b23 => ?_)
      obtain ⟨T26, J27, v29, rfl⟩ := b23
      have I28 := I16.call J27 (tm_sub (by decide)) (Or.inl rfl)
      have t30 := J27.up t20
      have t31 := J27.up t21
      refine mv_aload_n d_TrustDesk_account_21 rfl rfl ?_
      obtain ⟨v33, q32⟩ := tm_atI I28 t31 (k := 12) rfl
      refine tr_getK q32 d_TrustDesk_account_22 f_TrustDesk_73_12 ?_
      have := mz_hi v29
      have := mz_hi v33
      refine mv_icmp_geZ (tgt := 46) (a := v29.toInt) (b := v33.toInt) d_TrustDesk_account_25 (by decide) rfl rfl (fun b34 => ?_) (fun b34 => ?_)
      · refine mv_iconst (v := (-1)) d_TrustDesk_account_46 (by decide) ?_
        exact mv_iret d_TrustDesk_account_47 rfl (by first | rfl | decide) ⟨_, I28, _, rfl⟩
      · refine mv_aload_n d_TrustDesk_account_28 rfl rfl ?_
        obtain ⟨v36, q35⟩ := tm_atI I28 t31 (k := 11) rfl
        refine tr_getK q35 d_TrustDesk_account_29 f_TrustDesk_509_12 ?_
        refine mv_sipush (v := 200) d_TrustDesk_account_32 (by decide) ?_
        have := mz_hi v36
        refine mv_icmp_geZ (tgt := 46) (a := v36.toInt) (b := 200) d_TrustDesk_account_35 (by decide) rfl (by decide) (fun b37 => ?_) (fun b37 => ?_)
        · refine mv_iconst (v := (-1)) d_TrustDesk_account_46 (by decide) ?_
          exact mv_iret d_TrustDesk_account_47 rfl (by first | rfl | decide) ⟨_, I28, _, rfl⟩
        · refine mv_aload_n d_TrustDesk_account_38 rfl rfl ?_
          refine mv_iload_n d_TrustDesk_account_39 rfl rfl ?_
          obtain ⟨_, b44, -⟩ := I28.1 _ _ t30
          refine mv_callV (kc' := 0) (ks' := 0) (As := [.int x2]) (st9 := [.int x2, .ref a8]) d_TrustDesk_account_40 lV_TrustDesk_512 b44 rfl (tc_Fund_takeAccount (d := (d + 3)) (x9 := x9) (o0 := a8) (x1 := x2) t30 I28.start) rfl (Nat.le_of_ble_eq_true rfl) (Nat.le_of_ble_eq_true rfl) (Nat.le_of_ble_eq_true rfl) (hst := rfl) (fun b38r M39 n40 b38 => ?_)
          obtain ⟨T41, J42, v45, rfl, b46, b47⟩ := b38
          have I43 := I28.call J42 (tm_sub (by decide)) (Or.inl rfl)
          have t48 := J42.up t30
          have t49 := J42.up t31
          have q50 := J42.keep t31 (by decide) q32
          have q51 := J42.keep t31 (by decide) q35
          have := mz_hi v45
          refine mv_if_neZ (tgt := 48) (a := v45.toInt) d_TrustDesk_account_43 (by decide) rfl (fun b52 => ?_) (fun b52 => ?_)
          · refine mv_aload_n d_TrustDesk_account_48 rfl rfl ?_
            refine mv_dup d_TrustDesk_account_49 rfl ?_
            refine tr_getK (k := 11) q51 d_TrustDesk_account_50 f_TrustDesk_509_12 ?_
            refine mv_iconst (v := 1) d_TrustDesk_account_53 (by decide) ?_
            refine mv_iadd d_TrustDesk_account_54 ?_
            refine tr_putK tm_okF I43 t49 (k := 11) rfl ⟨_, rfl⟩ (Or.inl (by decide)) d_TrustDesk_account_55 p_TrustDesk_509_12 rfl rfl (fun M53 I54 q55 K56 => ?_)
            refine mv_iload_n d_TrustDesk_account_58 rfl rfl ?_
            refine mv_callS (kc' := 0) (ks' := 0) (As := [.int x2]) (st9 := [.int x2]) d_TrustDesk_account_59 lS_TrustDesk_151 (tc_TrustDesk_lastDayOf (d := (d + 3)) (x9 := x9) (x1 := x2)  I54.start) rfl (Nat.le_of_ble_eq_true rfl) (Nat.le_of_ble_eq_true rfl) (Nat.le_of_ble_eq_true rfl) (hst := rfl) (fun b57r M58 n59 b57 => ?_)
            obtain ⟨T60, J61, v63, rfl⟩ := b57
            have I62 := I54.call J61 (tm_sub (by decide)) (Or.inl rfl)
            have t64 := J61.up t48
            have t65 := J61.up t49
            have q66 := J61.keep t49 (by decide) (K56 _ 12 12 _ rfl q50)
            have q67 := J61.keep t49 (by decide) q55
            refine mv_istore (lv' := [(4, .int v63), (3, .ref a8), (0, .ref o0), (1, .int x1), (2, .int x2)]) d_TrustDesk_account_62 (by decide) rfl ?_
            refine mv_aload_n d_TrustDesk_account_64 rfl rfl ?_
            refine tr_getK (k := 12) q66 d_TrustDesk_account_65 f_TrustDesk_73_12 ?_
            refine mv_iload d_TrustDesk_account_68 rfl ?_
            refine mv_isub d_TrustDesk_account_70 ?_
            refine mv_aload_n d_TrustDesk_account_71 rfl rfl ?_
            refine mv_iload d_TrustDesk_account_72 rfl ?_
            obtain ⟨_, b74, -⟩ := I62.1 _ _ t65
            refine mv_callV (kc' := 0) (ks' := 0) (As := [.int v63]) (st9 := [.int v63, .ref o0, .int (v33 - v63)]) d_TrustDesk_account_74 lV_TrustDesk_114 b74 rfl (tc_TrustDesk_inForce (d := d) (x9 := x9) (o0 := o0) (x1 := v63) t65 I62.start) rfl (Nat.le_of_ble_eq_true rfl) (Nat.le_of_ble_eq_true rfl) (Nat.le_of_ble_eq_true rfl) (hst := rfl) (fun b68r M69 n70 b68 => ?_)
            obtain ⟨T71, J72, a75, rfl, t_a75⟩ := b68
            have I73 := I62.call J72 (tm_sub (by decide)) (Or.inl rfl)
            have t76 := J72.up t64
            have t77 := J72.up t65
            have q78 := J72.keep t65 (by decide) q66
            have q79 := J72.keep t65 (by decide) q67
            refine mv_iconst (v := 3) d_TrustDesk_account_77 (by decide) ?_
            obtain ⟨_, b86, -⟩ := I73.1 _ _ t_a75
            refine mv_callV (kc' := 0) (ks' := 0) (As := [.int 3]) (st9 := [.int 3, .ref a75, .int (v33 - v63)]) d_TrustDesk_account_78 lV_TrustDesk_118 b86 rfl (tc_Act_rule (d := (d + 3)) (x9 := x9) (o0 := a75) (x1 := 3) t_a75 I73.start) rfl (Nat.le_of_ble_eq_true rfl) (Nat.le_of_ble_eq_true rfl) (Nat.le_of_ble_eq_true rfl) (hst := rfl) (fun b80r M81 n82 b80 => ?_)
            obtain ⟨T83, J84, v87, rfl⟩ := b80
            have I85 := I73.call J84 (tm_sub (by decide)) (Or.inl rfl)
            have t88 := J84.up t76
            have t89 := J84.up t77
            have q90 := J84.keep t77 (by decide) q78
            have q91 := J84.keep t77 (by decide) q79
            refine mv_isub d_TrustDesk_account_81 ?_
            refine mv_istore (lv' := [(5, .int ((v33 - v63) - v87)), (4, .int v63), (3, .ref a8), (0, .ref o0), (1, .int x1), (2, .int x2)]) d_TrustDesk_account_82 (by decide) rfl ?_
            refine mv_iload d_TrustDesk_account_84 rfl ?_
            have := mz_hi ((v33 - v63) - v87)
            refine mv_if_leZ (tgt := 94) (a := ((v33 - v63) - v87).toInt) d_TrustDesk_account_86 (by decide) rfl (fun b92 => ?_) (fun b92 => ?_)
            · refine mv_iconst (v := 0) d_TrustDesk_account_94 (by decide) ?_
              exact mv_iret d_TrustDesk_account_95 rfl (by first | rfl | decide) ⟨_, I85, _, rfl⟩
            · refine mv_iload d_TrustDesk_account_89 rfl ?_
              refine mv_goto (tgt := 95) d_TrustDesk_account_91 (by decide) ?_
              exact mv_iret d_TrustDesk_account_95 rfl (by first | rfl | decide) ⟨_, I85, _, rfl⟩
          · refine mv_iconst (v := (-1)) d_TrustDesk_account_46 (by decide) ?_
            exact mv_iret d_TrustDesk_account_47 rfl (by first | rfl | decide) ⟨_, I43, _, rfl⟩
abbrev kY_TrustDesk_bringNear : mj_Y := (⟨"TrustDesk", "bringNear", "(LTrustDesk$Fund;LTrustDesk$NearEnd;)V"⟩, prog_1_method_32_code, 4, (Option.none : Option Jvm.ClassFile.FieldType))
theorem d_TrustDesk_bringNear_0 : decode kY_TrustDesk_bringNear.2.1 0 = .ok (.aload_n 1, 1) := by decide +kernel
theorem d_TrustDesk_bringNear_1 : decode kY_TrustDesk_bringNear.2.1 1 = .ok (.invokevirtual 348, 3) := by decide +kernel
abbrev kY_Fund_firstDead : mj_Y := (⟨"TrustDesk$Fund", "firstDead", "()LTrustDesk$End;"⟩, prog_7_method_8_code, 2, (Option.some (Jvm.ClassFile.FieldType.object "TrustDesk$End")))
theorem d_Fund_firstDead_0 : decode kY_Fund_firstDead.2.1 0 = .ok (.iconst 0, 1) := by decide +kernel
theorem d_Fund_firstDead_1 : decode kY_Fund_firstDead.2.1 1 = .ok (.istore_n 1, 1) := by decide +kernel
theorem d_Fund_firstDead_2 : decode kY_Fund_firstDead.2.1 2 = .ok (.iload_n 1, 1) := by decide +kernel
theorem d_Fund_firstDead_3 : decode kY_Fund_firstDead.2.1 3 = .ok (.aload_n 0, 1) := by decide +kernel
theorem d_Fund_firstDead_4 : decode kY_Fund_firstDead.2.1 4 = .ok (.getfield 24, 3) := by decide +kernel
theorem f_Fund_24_6 : mj_fl "TrustDesk$Fund" 24 6 11 := ⟨kR_Fund, kF_Fund, 15, "TrustDesk$Fund", rfl, kg_6, by decide, (mj_in1 (List.mem_of_getElem? (i := 688) (by decide +kernel)) rfl), Or.inl rfl⟩
theorem d_Fund_firstDead_7 : decode kY_Fund_firstDead.2.1 7 = .ok (.invokevirtual 61, 3) := by decide +kernel
theorem lV_Fund_61 : mj_lV "TrustDesk$Fund" 61 kY_ArrayList_size 0 := ⟨⟨(mj_in1 (List.mem_of_getElem? (i := 749) (by decide +kernel)) rfl), (mj_in1 (List.mem_of_getElem? (i := 9) (by decide +kernel)) rfl), (mj_in1 (List.mem_of_getElem? (i := 356) (by decide +kernel)) rfl), by decide, rfl, by decide⟩, (mj_in1 (List.mem_of_getElem? (i := 354) (by decide +kernel)) rfl), (mj_in1 (List.mem_of_getElem? (i := 355) (by decide +kernel)) rfl)⟩
theorem d_Fund_firstDead_10 : decode kY_Fund_firstDead.2.1 10 = .ok (.if_icmp .ge 39, 3) := by decide +kernel
theorem d_Fund_firstDead_49 : decode kY_Fund_firstDead.2.1 49 = .ok (.aconst_null, 1) := by decide +kernel
theorem d_Fund_firstDead_50 : decode kY_Fund_firstDead.2.1 50 = .ok (.areturn, 1) := by decide +kernel
theorem d_Fund_firstDead_13 : decode kY_Fund_firstDead.2.1 13 = .ok (.aload_n 0, 1) := by decide +kernel
theorem d_Fund_firstDead_14 : decode kY_Fund_firstDead.2.1 14 = .ok (.getfield 24, 3) := by decide +kernel
theorem d_Fund_firstDead_17 : decode kY_Fund_firstDead.2.1 17 = .ok (.iload_n 1, 1) := by decide +kernel
theorem d_Fund_firstDead_18 : decode kY_Fund_firstDead.2.1 18 = .ok (.invokevirtual 65, 3) := by decide +kernel
theorem lV_Fund_65 : mj_lV "TrustDesk$Fund" 65 kY_ArrayList_get 1 := ⟨⟨(mj_in1 (List.mem_of_getElem? (i := 750) (by decide +kernel)) rfl), (mj_in1 (List.mem_of_getElem? (i := 9) (by decide +kernel)) rfl), (mj_in1 (List.mem_of_getElem? (i := 637) (by decide +kernel)) rfl), by decide, rfl, by decide⟩, (mj_in1 (List.mem_of_getElem? (i := 635) (by decide +kernel)) rfl), (mj_in1 (List.mem_of_getElem? (i := 636) (by decide +kernel)) rfl)⟩
theorem d_Fund_firstDead_21 : decode kY_Fund_firstDead.2.1 21 = .ok (.checkcast 69, 3) := by decide +kernel
theorem d_Fund_firstDead_24 : decode kY_Fund_firstDead.2.1 24 = .ok (.getfield 80, 3) := by decide +kernel
theorem kg_3 : ∀ w ∈ u_ws kR_End kF_End 4, w ∈ mj_T := fun w h => mj_in1 (ki_End w h) (List.all_eq_true.mp (show (u_ws kR_End kF_End 4).all mj_good = true by decide +kernel) w h)
theorem f_Fund_80_3 : mj_fl "TrustDesk$Fund" 80 3 1 := ⟨kR_End, kF_End, 4, "TrustDesk$End", rfl, kg_3, by decide, (mj_in1 (List.mem_of_getElem? (i := 789) (by decide +kernel)) rfl), Or.inl rfl⟩
theorem d_Fund_firstDead_27 : decode kY_Fund_firstDead.2.1 27 = .ok (.iconst 1, 1) := by decide +kernel
theorem d_Fund_firstDead_28 : decode kY_Fund_firstDead.2.1 28 = .ok (.if_icmp .ne 15, 3) := by decide +kernel
theorem d_Fund_firstDead_43 : decode kY_Fund_firstDead.2.1 43 = .ok (.iinc 1 1, 3) := by decide +kernel
theorem d_Fund_firstDead_46 : decode kY_Fund_firstDead.2.1 46 = .ok (.goto (-44), 3) := by decide +kernel
theorem d_Fund_firstDead_31 : decode kY_Fund_firstDead.2.1 31 = .ok (.aload_n 0, 1) := by decide +kernel
theorem d_Fund_firstDead_32 : decode kY_Fund_firstDead.2.1 32 = .ok (.getfield 24, 3) := by decide +kernel
theorem d_Fund_firstDead_35 : decode kY_Fund_firstDead.2.1 35 = .ok (.iload_n 1, 1) := by decide +kernel
theorem d_Fund_firstDead_36 : decode kY_Fund_firstDead.2.1 36 = .ok (.invokevirtual 65, 3) := by decide +kernel
theorem d_Fund_firstDead_39 : decode kY_Fund_firstDead.2.1 39 = .ok (.checkcast 69, 3) := by decide +kernel
theorem d_Fund_firstDead_42 : decode kY_Fund_firstDead.2.1 42 = .ok (.areturn, 1) := by decide +kernel
def w_Fund_firstDead : List Nat := []
theorem tc_Fund_firstDead {g : mj_G} {l : Launch} {d : Nat} {T0 : tm_H} {M0 : mj_M} {n0 x9 : Nat} {o0 : Nat} (h_o0 : T0 o0 = some (0, 6, 0)) (I0 : tm_I tm_FT (tm_in w_Fund_firstDead) x9 T0 M0 n0 T0 M0 n0) : mj_Met g l kY_Fund_firstDead (d + 3) [.ref o0] M0 n0 0 0 (tm_Q tm_FT (tm_in w_Fund_firstDead) x9 T0 M0 n0 (fun r T _ => r = some .null ∨ ∃ b, r = some (.ref b) ∧ T b = some (0, 3, 0))) := by
  refine mj_enter (by decide) (Nat.le_of_ble_eq_true rfl) ?_
  refine mv_iconst (v := 0) d_Fund_firstDead_0 (by decide) ?_
  refine mv_istore_n (lv' := [(1, .int 0), (0, .ref o0)]) d_Fund_firstDead_1 rfl (by decide) rfl ?_
  have L2_1 : ∀ (k : Nat) (i1_1 : Int32) (T_1 : tm_H) (M_1 : mj_M) (n_1 : Nat), tm_I tm_FT (tm_in w_Fund_firstDead) x9 T0 M0 n0 T_1 M_1 n_1 → T_1 o0 = some (0, 6, 0) → 0 ≤ i1_1.toInt → 2147483647 - i1_1.toInt < (k : Int) → mj_V g l kY_Fund_firstDead (d + 3) 2 [(1, .int i1_1), (0, .ref o0)] [] M_1 n_1 0 0 (tm_Q tm_FT (tm_in w_Fund_firstDead) x9 T0 M0 n0 (fun r T _ => r = some .null ∨ ∃ b, r = some (.ref b) ∧ T b = some (0, 3, 0))) := by
    intro k1
    induction k1 with
    | zero =>
      intro i1_1 T_1 M_1 n_1 I_1 h_q0_1 iv0_1 hk1
      have := mz_hi i1_1
      omega
    | succ k1 ih1 =>
      intro i1_1 T_1 M_1 n_1 I_1 h_q0_1 iv0_1 hk1
      refine mv_iload_n d_Fund_firstDead_2 rfl rfl ?_
      refine mv_aload_n d_Fund_firstDead_3 rfl rfl ?_
      obtain ⟨a3, q2, t_a3⟩ := tm_atO I_1 h_q0_1 (k := 11) rfl
      refine tr_getK q2 d_Fund_firstDead_4 f_Fund_24_6 ?_
      obtain ⟨m5, n6, e7, N8, f9, h4⟩ := I_1.1 _ _ t_a3
      have := h4.2.1
      have : n6.toInt ≤ 72 := h4.2.2.1
      refine mv_callV_s (kc' := 0) (ks' := 0) [] [.ref a3, .int i1_1] d_Fund_firstDead_7 lV_Fund_61 h4.1 rfl (tc_L_size (d := (d + 2)) h4.1) rfl (Nat.le_of_ble_eq_true rfl) (Nat.le_of_ble_eq_true rfl) (Nat.le_of_ble_eq_true rfl) rfl ?_
      have := mz_hi i1_1
      have := mz_hi n6
      refine mv_icmp_geZ (tgt := 49) (a := i1_1.toInt) (b := n6.toInt) d_Fund_firstDead_10 (by decide) rfl rfl (fun b10 => ?_) (fun b10 => ?_)
      · refine mv_null d_Fund_firstDead_49 ?_
        exact mv_aret (r := none) d_Fund_firstDead_50 rfl (by first | exact Or.inl ⟨_, rfl⟩ | exact Or.inr ⟨_, rfl⟩) ⟨_, I_1, Or.inl rfl⟩
      · refine mv_aload_n d_Fund_firstDead_13 rfl rfl ?_
        refine tr_getK (k := 11) q2 d_Fund_firstDead_14 f_Fund_24_6 ?_
        refine mv_iload_n d_Fund_firstDead_17 rfl rfl ?_
        obtain ⟨u11e, u11i, a12, u11f, u11t⟩ := tm_el (i := i1_1) h4 (by omega) (by omega)
        have t_a12 : T_1 a12 = some (0, 3, 0) := u11t
        refine mv_callV_s (kc' := 0) (ks' := 0) [.int i1_1] [.int i1_1, .ref a3] d_Fund_firstDead_18 lV_Fund_65 h4.1 rfl (tc_L_get (d := d) h4.1 u11e (by omega) (by omega) u11i u11f) rfl (Nat.le_of_ble_eq_true rfl) (Nat.le_of_ble_eq_true rfl) (Nat.le_of_ble_eq_true rfl) rfl ?_
        obtain ⟨_, b13, -⟩ := I_1.1 _ _ t_a12
        refine mv_castS (T9 := kF_End) (N := 4) d_Fund_firstDead_21 (mj_in1 (List.mem_of_getElem? (i := 751) (by decide +kernel)) rfl) b13 rfl ?_
        obtain ⟨v15, q14⟩ := tm_atI I_1 t_a12 (k := 1) rfl
        refine tr_getK q14 d_Fund_firstDead_24 f_Fund_80_3 ?_
        refine mv_iconst (v := 1) d_Fund_firstDead_27 (by decide) ?_
        have := mz_hi v15
        refine mv_icmp_neZ (tgt := 43) (a := v15.toInt) (b := 1) d_Fund_firstDead_28 (by decide) rfl (by decide) (fun b16 => ?_) (fun b16 => ?_)
        · refine mv_iinc (v := (i1_1 + 1)) (lv' := [(1, .int (i1_1 + 1)), (0, .ref o0)]) d_Fund_firstDead_43 rfl rfl (by decide) rfl ?_
          refine mv_goto (tgt := 2) d_Fund_firstDead_46 (by decide) ?_
          have b17 : (i1_1 + 1).toInt = i1_1.toInt + 1 := mz_addn 1 1 (by decide) (by have := mz_lo i1_1; omega) (by have := mz_hi i1_1; omega)
          exact ih1 (i1_1 + 1) T_1 M_1 n_1 I_1 h_q0_1 (by first | omega | decide) (by omega)
        · refine mv_aload_n d_Fund_firstDead_31 rfl rfl ?_
          refine tr_getK (k := 11) q2 d_Fund_firstDead_32 f_Fund_24_6 ?_
          refine mv_iload_n d_Fund_firstDead_35 rfl rfl ?_
          obtain ⟨u18e, u18i, a19, u18f, u18t⟩ := tm_el (i := i1_1) h4 (by omega) (by omega)
          have t_a19 : T_1 a19 = some (0, 3, 0) := u18t
          refine mv_callV_s (kc' := 0) (ks' := 0) [.int i1_1] [.int i1_1, .ref a3] d_Fund_firstDead_36 lV_Fund_65 h4.1 rfl (tc_L_get (d := d) h4.1 u18e (by omega) (by omega) u18i u18f) rfl (Nat.le_of_ble_eq_true rfl) (Nat.le_of_ble_eq_true rfl) (Nat.le_of_ble_eq_true rfl) rfl ?_
          obtain ⟨_, b20, -⟩ := I_1.1 _ _ t_a19
          refine mv_castS (T9 := kF_End) (N := 4) d_Fund_firstDead_39 (mj_in1 (List.mem_of_getElem? (i := 751) (by decide +kernel)) rfl) b20 rfl ?_
          exact mv_aret (r := some a19) d_Fund_firstDead_42 rfl (by first | exact Or.inl ⟨_, rfl⟩ | exact Or.inr ⟨_, rfl⟩) ⟨_, I_1, Or.inr ⟨_, rfl, t_a19⟩⟩
  exact L2_1 4294967296 0 T0 M0 n0 I0 h_o0 (by first | omega | decide) (by show (2147483647 : Int) - _ < _; decide)
theorem lV_TrustDesk_348 : mj_lV "TrustDesk" 348 kY_Fund_firstDead 0 := ⟨⟨(mj_in1 (List.mem_of_getElem? (i := 1061) (by decide +kernel)) rfl), (mj_in1 (List.mem_of_getElem? (i := 21) (by decide +kernel)) rfl), (mj_in1 (List.mem_of_getElem? (i := 1064) (by decide +kernel)) rfl), by decide, rfl, by decide⟩, (mj_in1 (List.mem_of_getElem? (i := 1062) (by decide +kernel)) rfl), (mj_in1 (List.mem_of_getElem? (i := 1063) (by decide +kernel)) rfl)⟩
theorem d_TrustDesk_bringNear_4 : decode kY_TrustDesk_bringNear.2.1 4 = .ok (.astore_n 3, 1) := by decide +kernel
theorem d_TrustDesk_bringNear_5 : decode kY_TrustDesk_bringNear.2.1 5 = .ok (.aload_n 3, 1) := by decide +kernel
theorem d_TrustDesk_bringNear_6 : decode kY_TrustDesk_bringNear.2.1 6 = .ok (.ifnull 7, 3) := by decide +kernel
theorem d_TrustDesk_bringNear_13 : decode kY_TrustDesk_bringNear.2.1 13 = .ok (.return_, 1) := by decide +kernel
theorem d_TrustDesk_bringNear_9 : decode kY_TrustDesk_bringNear.2.1 9 = .ok (.aload_n 2, 1) := by decide +kernel
theorem d_TrustDesk_bringNear_10 : decode kY_TrustDesk_bringNear.2.1 10 = .ok (.ifnonnull 4, 3) := by decide +kernel
theorem d_TrustDesk_bringNear_14 : decode kY_TrustDesk_bringNear.2.1 14 = .ok (.aload_n 3, 1) := by decide +kernel
theorem d_TrustDesk_bringNear_15 : decode kY_TrustDesk_bringNear.2.1 15 = .ok (.aload_n 2, 1) := by decide +kernel
theorem d_TrustDesk_bringNear_16 : decode kY_TrustDesk_bringNear.2.1 16 = .ok (.getfield 407, 3) := by decide +kernel
theorem kg_8 : ∀ w ∈ u_ws kR_NearEnd kF_NearEnd 2, w ∈ mj_T := fun w h => mj_in1 (ki_NearEnd w h) (List.all_eq_true.mp (show (u_ws kR_NearEnd kF_NearEnd 2).all mj_good = true by decide +kernel) w h)
theorem f_TrustDesk_407_8 : mj_fl "TrustDesk" 407 8 0 := ⟨kR_NearEnd, kF_NearEnd, 2, "TrustDesk$NearEnd", rfl, kg_8, by decide, (mj_in1 (List.mem_of_getElem? (i := 828) (by decide +kernel)) rfl), Or.inl rfl⟩
theorem d_TrustDesk_bringNear_19 : decode kY_TrustDesk_bringNear.2.1 19 = .ok (.invokevirtual 408, 3) := by decide +kernel
abbrev kY_End_becomes : mj_Y := (⟨"TrustDesk$End", "becomes", "(LTrustDesk$EndText;)V"⟩, prog_4_method_4_code, 2, (Option.none : Option Jvm.ClassFile.FieldType))
theorem d_End_becomes_0 : decode kY_End_becomes.2.1 0 = .ok (.aload_n 0, 1) := by decide +kernel
theorem d_End_becomes_1 : decode kY_End_becomes.2.1 1 = .ok (.aload_n 1, 1) := by decide +kernel
theorem d_End_becomes_2 : decode kY_End_becomes.2.1 2 = .ok (.putfield 18, 3) := by decide +kernel
theorem p_End_18_3 : mj_fp "TrustDesk$End" 18 3 0 (kt_End 0) false := ⟨kR_End, kF_End, 4, "TrustDesk$End", kt_End, rfl, kg_3, by decide, (mj_in1 (List.mem_of_getElem? (i := 785) (by decide +kernel)) rfl), Or.inl rfl, kto_End, kn_End, rfl, rfl, fun h => by cases h⟩
theorem d_End_becomes_5 : decode kY_End_becomes.2.1 5 = .ok (.aload_n 0, 1) := by decide +kernel
theorem d_End_becomes_6 : decode kY_End_becomes.2.1 6 = .ok (.iconst 0, 1) := by decide +kernel
theorem d_End_becomes_7 : decode kY_End_becomes.2.1 7 = .ok (.putfield 9, 3) := by decide +kernel
theorem p_End_9_3 : mj_fp "TrustDesk$End" 9 3 1 (kt_End 1) false := ⟨kR_End, kF_End, 4, "TrustDesk$End", kt_End, rfl, kg_3, by decide, (mj_in1 (List.mem_of_getElem? (i := 788) (by decide +kernel)) rfl), Or.inl rfl, kto_End, kn_End, rfl, rfl, fun h => by cases h⟩
theorem d_End_becomes_10 : decode kY_End_becomes.2.1 10 = .ok (.aload_n 0, 1) := by decide +kernel
theorem d_End_becomes_11 : decode kY_End_becomes.2.1 11 = .ok (.iconst 0, 1) := by decide +kernel
theorem d_End_becomes_12 : decode kY_End_becomes.2.1 12 = .ok (.putfield 25, 3) := by decide +kernel
theorem p_End_25_3 : mj_fp "TrustDesk$End" 25 3 2 (kt_End 2) false := ⟨kR_End, kF_End, 4, "TrustDesk$End", kt_End, rfl, kg_3, by decide, (mj_in1 (List.mem_of_getElem? (i := 791) (by decide +kernel)) rfl), Or.inl rfl, kto_End, kn_End, rfl, rfl, fun h => by cases h⟩
theorem d_End_becomes_15 : decode kY_End_becomes.2.1 15 = .ok (.aload_n 0, 1) := by decide +kernel
theorem d_End_becomes_16 : decode kY_End_becomes.2.1 16 = .ok (.iconst (-1), 1) := by decide +kernel
theorem d_End_becomes_17 : decode kY_End_becomes.2.1 17 = .ok (.putfield 15, 3) := by decide +kernel
theorem p_End_15_3 : mj_fp "TrustDesk$End" 15 3 3 (kt_End 3) false := ⟨kR_End, kF_End, 4, "TrustDesk$End", kt_End, rfl, kg_3, by decide, (mj_in1 (List.mem_of_getElem? (i := 793) (by decide +kernel)) rfl), Or.inl rfl, kto_End, kn_End, rfl, rfl, fun h => by cases h⟩
theorem d_End_becomes_20 : decode kY_End_becomes.2.1 20 = .ok (.return_, 1) := by decide +kernel
def w_End_becomes : List Nat := [300, 301, 302, 303]
theorem tc_End_becomes {g : mj_G} {l : Launch} {d : Nat} {T0 : tm_H} {M0 : mj_M} {n0 x9 : Nat} {o0 : Nat} {o1 : Nat} (h_o0 : T0 o0 = some (0, 3, 0)) (h_o1 : T0 o1 = some (0, 4, 0)) (I0 : tm_I tm_FT (tm_in w_End_becomes) x9 T0 M0 n0 T0 M0 n0) : mj_Met g l kY_End_becomes d [.ref o0, .ref o1] M0 n0 0 0 (tm_Q tm_FT (tm_in w_End_becomes) x9 T0 M0 n0 (fun r _ _ => r = none)) := by
  refine mj_enter (by decide) (Nat.le_of_ble_eq_true rfl) ?_
  refine mv_aload_n d_End_becomes_0 rfl rfl ?_
  refine mv_aload_n d_End_becomes_1 rfl rfl ?_
  refine tr_putK tm_okF I0 h_o0 (k := 0) rfl ⟨_, rfl, h_o1⟩ (Or.inl (by decide)) d_End_becomes_2 p_End_18_3 rfl rfl (fun M1 I2 q3 K4 => ?_)
  refine mv_aload_n d_End_becomes_5 rfl rfl ?_
  refine mv_iconst (v := 0) d_End_becomes_6 (by decide) ?_
  refine tr_putK tm_okF I2 h_o0 (k := 1) rfl ⟨_, rfl⟩ (Or.inl (by decide)) d_End_becomes_7 p_End_9_3 rfl rfl (fun M5 I6 q7 K8 => ?_)
  refine mv_aload_n d_End_becomes_10 rfl rfl ?_
  refine mv_iconst (v := 0) d_End_becomes_11 (by decide) ?_
  refine tr_putK tm_okF I6 h_o0 (k := 2) rfl ⟨_, rfl⟩ (Or.inl (by decide)) d_End_becomes_12 p_End_25_3 rfl rfl (fun M9 I10 q11 K12 => ?_)
  refine mv_aload_n d_End_becomes_15 rfl rfl ?_
  refine mv_iconst (v := (-1)) d_End_becomes_16 (by decide) ?_
  refine tr_putK tm_okF I10 h_o0 (k := 3) rfl ⟨_, rfl⟩ (Or.inl (by decide)) d_End_becomes_17 p_End_15_3 rfl rfl (fun M13 I14 q15 K16 => ?_)
  exact mv_vret d_End_becomes_20 rfl ⟨_, I14, rfl⟩
theorem lV_TrustDesk_408 : mj_lV "TrustDesk" 408 kY_End_becomes 1 := ⟨⟨(mj_in1 (List.mem_of_getElem? (i := 1121) (by decide +kernel)) rfl), (mj_in1 (List.mem_of_getElem? (i := 23) (by decide +kernel)) rfl), (mj_in1 (List.mem_of_getElem? (i := 1124) (by decide +kernel)) rfl), by decide, rfl, by decide⟩, (mj_in1 (List.mem_of_getElem? (i := 1122) (by decide +kernel)) rfl), (mj_in1 (List.mem_of_getElem? (i := 1123) (by decide +kernel)) rfl)⟩
theorem d_TrustDesk_bringNear_22 : decode kY_TrustDesk_bringNear.2.1 22 = .ok (.aload_n 1, 1) := by decide +kernel
theorem d_TrustDesk_bringNear_23 : decode kY_TrustDesk_bringNear.2.1 23 = .ok (.dup, 1) := by decide +kernel
theorem d_TrustDesk_bringNear_24 : decode kY_TrustDesk_bringNear.2.1 24 = .ok (.getfield 372, 3) := by decide +kernel
theorem f_TrustDesk_372_6 : mj_fl "TrustDesk" 372 6 4 := ⟨kR_Fund, kF_Fund, 15, "TrustDesk$Fund", rfl, kg_6, by decide, (mj_in1 (List.mem_of_getElem? (i := 675) (by decide +kernel)) rfl), Or.inl rfl⟩
theorem d_TrustDesk_bringNear_27 : decode kY_TrustDesk_bringNear.2.1 27 = .ok (.aload_n 2, 1) := by decide +kernel
theorem d_TrustDesk_bringNear_28 : decode kY_TrustDesk_bringNear.2.1 28 = .ok (.getfield 383, 3) := by decide +kernel
theorem f_TrustDesk_383_8 : mj_fl "TrustDesk" 383 8 1 := ⟨kR_NearEnd, kF_NearEnd, 2, "TrustDesk$NearEnd", rfl, kg_8, by decide, (mj_in1 (List.mem_of_getElem? (i := 830) (by decide +kernel)) rfl), Or.inl rfl⟩
theorem d_TrustDesk_bringNear_31 : decode kY_TrustDesk_bringNear.2.1 31 = .ok (.iand, 1) := by decide +kernel
theorem d_TrustDesk_bringNear_32 : decode kY_TrustDesk_bringNear.2.1 32 = .ok (.putfield 372, 3) := by decide +kernel
theorem p_TrustDesk_372_6 : mj_fp "TrustDesk" 372 6 4 (kt_Fund 4) false := ⟨kR_Fund, kF_Fund, 15, "TrustDesk$Fund", kt_Fund, rfl, kg_6, by decide, (mj_in1 (List.mem_of_getElem? (i := 675) (by decide +kernel)) rfl), Or.inl rfl, kto_Fund, kn_Fund, rfl, rfl, fun h => by cases h⟩
theorem d_TrustDesk_bringNear_35 : decode kY_TrustDesk_bringNear.2.1 35 = .ok (.return_, 1) := by decide +kernel
def w_TrustDesk_bringNear : List Nat := [300, 301, 302, 303, 604]
theorem tc_TrustDesk_bringNear {g : mj_G} {l : Launch} {d : Nat} {T0 : tm_H} {M0 : mj_M} {n0 x9 : Nat} {o0 : Nat} {o1 : Nat} {o2 : Nat} (h_o0 : T0 o0 = some (0, 12, 0)) (h_o1 : T0 o1 = some (0, 6, 0)) (h_o2 : T0 o2 = some (0, 8, 0)) (I0 : tm_I tm_FT (tm_in w_TrustDesk_bringNear) x9 T0 M0 n0 T0 M0 n0) : mj_Met g l kY_TrustDesk_bringNear (d + 4) [.ref o0, .ref o1, .ref o2] M0 n0 0 0 (tm_Q tm_FT (tm_in w_TrustDesk_bringNear) x9 T0 M0 n0 (fun r _ _ => r = none)) := by
  refine mj_enter (by decide) (Nat.le_of_ble_eq_true rfl) ?_
  refine mv_aload_n d_TrustDesk_bringNear_0 rfl rfl ?_
  obtain ⟨_, b7, -⟩ := I0.1 _ _ h_o1
  refine mv_callV (kc' := 0) (ks' := 0) (As := []) (st9 := [.ref o1]) d_TrustDesk_bringNear_1 lV_TrustDesk_348 b7 rfl (tc_Fund_firstDead (d := d) (x9 := x9) (o0 := o1) h_o1 I0.start) rfl (Nat.le_of_ble_eq_true rfl) (Nat.le_of_ble_eq_true rfl) (Nat.le_of_ble_eq_true rfl) (hst := rfl) (fun b1r M2 n3 b1 => ?_)
  obtain ⟨T4, J5, b9⟩ := b1
  have I6 := I0.call J5 (tm_sub (by decide)) (Or.inl rfl)
  have t10 := J5.up h_o0
  have t11 := J5.up h_o1
  have t12 := J5.up h_o2
  rcases b9 with rfl | ⟨a8, rfl, t_a8⟩
  · refine mv_astore_nN (lv' := [(3, .null), (0, .ref o0), (1, .ref o1), (2, .ref o2)]) d_TrustDesk_bringNear_4 rfl (by decide) rfl ?_
    refine mv_aload_nN d_TrustDesk_bringNear_5 rfl rfl ?_
    refine mv_ifnullN (tgt := 13) d_TrustDesk_bringNear_6 (by decide) ?_
    exact mv_vret d_TrustDesk_bringNear_13 rfl ⟨_, I6, rfl⟩
  · refine mv_astore_n (lv' := [(3, .ref a8), (0, .ref o0), (1, .ref o1), (2, .ref o2)]) d_TrustDesk_bringNear_4 rfl (by decide) rfl ?_
    refine mv_aload_n d_TrustDesk_bringNear_5 rfl rfl ?_
    refine mv_ifnull d_TrustDesk_bringNear_6 ?_
    refine mv_aload_n d_TrustDesk_bringNear_9 rfl rfl ?_
    refine mv_ifnonnull (tgt := 14) d_TrustDesk_bringNear_10 (by decide) ?_
    refine mv_aload_n d_TrustDesk_bringNear_14 rfl rfl ?_
    refine mv_aload_n d_TrustDesk_bringNear_15 rfl rfl ?_
    obtain ⟨a14, q13, t_a14⟩ := tm_atR I6 t12 (k := 0) rfl
    refine tr_getK q13 d_TrustDesk_bringNear_16 f_TrustDesk_407_8 ?_
    obtain ⟨_, b21, -⟩ := I6.1 _ _ t_a8
    refine mv_callV (kc' := 0) (ks' := 0) (As := [.ref a14]) (st9 := [.ref a14, .ref a8]) d_TrustDesk_bringNear_19 lV_TrustDesk_408 b21 rfl (tc_End_becomes (d := (d + 3)) (x9 := x9) (o0 := a8) (o1 := a14) t_a8 t_a14 I6.start) rfl (Nat.le_of_ble_eq_true rfl) (Nat.le_of_ble_eq_true rfl) (Nat.le_of_ble_eq_true rfl) (hst := rfl) (fun b15r M16 n17 b15 => ?_)
    obtain ⟨T18, J19, rfl⟩ := b15
    have I20 := I6.call J19 (tm_sub (by decide)) (Or.inl rfl)
    have t22 := J19.up t_a8
    have t23 := J19.up t10
    have t24 := J19.up t11
    have t25 := J19.up t12
    have q26 := J19.keep t12 (by decide) q13
    have t27 := J19.up t_a14
    refine mv_aload_n d_TrustDesk_bringNear_22 rfl rfl ?_
    refine mv_dup d_TrustDesk_bringNear_23 rfl ?_
    obtain ⟨v29, q28⟩ := tm_atI I20 t24 (k := 4) rfl
    refine tr_getK q28 d_TrustDesk_bringNear_24 f_TrustDesk_372_6 ?_
    refine mv_aload_n d_TrustDesk_bringNear_27 rfl rfl ?_
    obtain ⟨v31, q30⟩ := tm_atI I20 t25 (k := 1) rfl
    refine tr_getK q30 d_TrustDesk_bringNear_28 f_TrustDesk_383_8 ?_
    refine mv_iand d_TrustDesk_bringNear_31 ?_
    refine tr_putK tm_okF I20 t24 (k := 4) rfl ⟨_, rfl⟩ (Or.inl (by decide)) d_TrustDesk_bringNear_32 p_TrustDesk_372_6 rfl rfl (fun M32 I33 q34 K35 => ?_)
    exact mv_vret d_TrustDesk_bringNear_35 rfl ⟨_, I33, rfl⟩
abbrev kY_TrustDesk_canBe : mj_Y := (⟨"TrustDesk", "canBe", "(LTrustDesk$Scheme;LTrustDesk$Fund;)Z"⟩, prog_1_method_26_code, 4, (Option.some Jvm.ClassFile.FieldType.boolean))
theorem d_TrustDesk_canBe_0 : decode kY_TrustDesk_canBe.2.1 0 = .ok (.aload_n 2, 1) := by decide +kernel
theorem d_TrustDesk_canBe_1 : decode kY_TrustDesk_canBe.2.1 1 = .ok (.invokevirtual 162, 3) := by decide +kernel
abbrev kY_Fund_isJoined : mj_Y := (⟨"TrustDesk$Fund", "isJoined", "()Z"⟩, prog_7_method_2_code, 1, (Option.some Jvm.ClassFile.FieldType.boolean))
theorem d_Fund_isJoined_0 : decode kY_Fund_isJoined.2.1 0 = .ok (.aload_n 0, 1) := by decide +kernel
theorem d_Fund_isJoined_1 : decode kY_Fund_isJoined.2.1 1 = .ok (.getfield 18, 3) := by decide +kernel
theorem f_Fund_18_6 : mj_fl "TrustDesk$Fund" 18 6 8 := ⟨kR_Fund, kF_Fund, 15, "TrustDesk$Fund", rfl, kg_6, by decide, (mj_in1 (List.mem_of_getElem? (i := 684) (by decide +kernel)) rfl), Or.inl rfl⟩
theorem d_Fund_isJoined_4 : decode kY_Fund_isJoined.2.1 4 = .ok (.iconst (-1), 1) := by decide +kernel
theorem d_Fund_isJoined_5 : decode kY_Fund_isJoined.2.1 5 = .ok (.if_icmp .eq 7, 3) := by decide +kernel
theorem d_Fund_isJoined_12 : decode kY_Fund_isJoined.2.1 12 = .ok (.iconst 0, 1) := by decide +kernel
theorem d_Fund_isJoined_13 : decode kY_Fund_isJoined.2.1 13 = .ok (.ireturn, 1) := by decide +kernel
theorem d_Fund_isJoined_8 : decode kY_Fund_isJoined.2.1 8 = .ok (.iconst 1, 1) := by decide +kernel
theorem d_Fund_isJoined_9 : decode kY_Fund_isJoined.2.1 9 = .ok (.goto 4, 3) := by decide +kernel
def w_Fund_isJoined : List Nat := []
theorem tc_Fund_isJoined {g : mj_G} {l : Launch} {d : Nat} {T0 : tm_H} {M0 : mj_M} {n0 x9 : Nat} {o0 : Nat} (h_o0 : T0 o0 = some (0, 6, 0)) (I0 : tm_I tm_FT (tm_in w_Fund_isJoined) x9 T0 M0 n0 T0 M0 n0) : mj_Met g l kY_Fund_isJoined d [.ref o0] M0 n0 0 0 (tm_Q tm_FT (tm_in w_Fund_isJoined) x9 T0 M0 n0 (fun r _ _ => ∃ v : Int32, r = some (.int v) ∧ 0 ≤ v.toInt ∧ v.toInt ≤ 1)) := by
  refine mj_enter (by decide) (Nat.le_of_ble_eq_true rfl) ?_
  refine mv_aload_n d_Fund_isJoined_0 rfl rfl ?_
  obtain ⟨v2, q1⟩ := tm_atI I0 h_o0 (k := 8) rfl
  refine tr_getK q1 d_Fund_isJoined_1 f_Fund_18_6 ?_
  refine mv_iconst (v := (-1)) d_Fund_isJoined_4 (by decide) ?_
  have := mz_hi v2
  refine mv_icmp_eqZ (tgt := 12) (a := v2.toInt) (b := (-1)) d_Fund_isJoined_5 (by decide) rfl (by decide) (fun b3 => ?_) (fun b3 => ?_)
  · refine mv_iconst (v := 0) d_Fund_isJoined_12 (by decide) ?_
    exact mv_iret d_Fund_isJoined_13 rfl (by decide) ⟨_, I0, _, rfl, by decide, by decide⟩
  · refine mv_iconst (v := 1) d_Fund_isJoined_8 (by decide) ?_
    refine mv_goto (tgt := 13) d_Fund_isJoined_9 (by decide) ?_
    exact mv_iret d_Fund_isJoined_13 rfl (by decide) ⟨_, I0, _, rfl, by decide, by decide⟩
theorem lV_TrustDesk_162 : mj_lV "TrustDesk" 162 kY_Fund_isJoined 0 := ⟨⟨(mj_in1 (List.mem_of_getElem? (i := 856) (by decide +kernel)) rfl), (mj_in1 (List.mem_of_getElem? (i := 21) (by decide +kernel)) rfl), (mj_in1 (List.mem_of_getElem? (i := 859) (by decide +kernel)) rfl), by decide, rfl, by decide⟩, (mj_in1 (List.mem_of_getElem? (i := 857) (by decide +kernel)) rfl), (mj_in1 (List.mem_of_getElem? (i := 858) (by decide +kernel)) rfl)⟩
theorem d_TrustDesk_canBe_4 : decode kY_TrustDesk_canBe.2.1 4 = .ok (.ifCond .eq 5, 3) := by decide +kernel
theorem d_TrustDesk_canBe_9 : decode kY_TrustDesk_canBe.2.1 9 = .ok (.aload_n 1, 1) := by decide +kernel
theorem d_TrustDesk_canBe_10 : decode kY_TrustDesk_canBe.2.1 10 = .ok (.getfield 308, 3) := by decide +kernel
theorem kg_11 : ∀ w ∈ u_ws kR_Scheme kF_Scheme 12, w ∈ mj_T := fun w h => mj_in1 (ki_Scheme w h) (List.all_eq_true.mp (show (u_ws kR_Scheme kF_Scheme 12).all mj_good = true by decide +kernel) w h)
theorem f_TrustDesk_308_11 : mj_fl "TrustDesk" 308 11 0 := ⟨kR_Scheme, kF_Scheme, 12, "TrustDesk$Scheme", rfl, kg_11, by decide, (mj_in1 (List.mem_of_getElem? (i := 968) (by decide +kernel)) rfl), Or.inl rfl⟩
theorem d_TrustDesk_canBe_13 : decode kY_TrustDesk_canBe.2.1 13 = .ok (.tableswitch 71 0 2 #[27, 40, 54], 27) := by decide +kernel
theorem d_TrustDesk_canBe_84 : decode kY_TrustDesk_canBe.2.1 84 = .ok (.aload_n 2, 1) := by decide +kernel
theorem d_TrustDesk_canBe_85 : decode kY_TrustDesk_canBe.2.1 85 = .ok (.aload_n 1, 1) := by decide +kernel
theorem d_TrustDesk_canBe_86 : decode kY_TrustDesk_canBe.2.1 86 = .ok (.getfield 311, 3) := by decide +kernel
theorem f_TrustDesk_311_11 : mj_fl "TrustDesk" 311 11 2 := ⟨kR_Scheme, kF_Scheme, 12, "TrustDesk$Scheme", rfl, kg_11, by decide, (mj_in1 (List.mem_of_getElem? (i := 972) (by decide +kernel)) rfl), Or.inl rfl⟩
theorem d_TrustDesk_canBe_89 : decode kY_TrustDesk_canBe.2.1 89 = .ok (.invokevirtual 359, 3) := by decide +kernel
abbrev kY_Fund_endAt : mj_Y := (⟨"TrustDesk$Fund", "endAt", "(I)LTrustDesk$End;"⟩, prog_7_method_6_code, 2, (Option.some (Jvm.ClassFile.FieldType.object "TrustDesk$End")))
theorem d_Fund_endAt_0 : decode kY_Fund_endAt.2.1 0 = .ok (.iload_n 1, 1) := by decide +kernel
theorem d_Fund_endAt_1 : decode kY_Fund_endAt.2.1 1 = .ok (.ifCond .lt 28, 3) := by decide +kernel
theorem d_Fund_endAt_29 : decode kY_Fund_endAt.2.1 29 = .ok (.aconst_null, 1) := by decide +kernel
theorem d_Fund_endAt_30 : decode kY_Fund_endAt.2.1 30 = .ok (.areturn, 1) := by decide +kernel
theorem d_Fund_endAt_4 : decode kY_Fund_endAt.2.1 4 = .ok (.iload_n 1, 1) := by decide +kernel
theorem d_Fund_endAt_5 : decode kY_Fund_endAt.2.1 5 = .ok (.aload_n 0, 1) := by decide +kernel
theorem d_Fund_endAt_6 : decode kY_Fund_endAt.2.1 6 = .ok (.getfield 24, 3) := by decide +kernel
theorem d_Fund_endAt_9 : decode kY_Fund_endAt.2.1 9 = .ok (.invokevirtual 61, 3) := by decide +kernel
theorem d_Fund_endAt_12 : decode kY_Fund_endAt.2.1 12 = .ok (.if_icmp .ge 17, 3) := by decide +kernel
theorem d_Fund_endAt_15 : decode kY_Fund_endAt.2.1 15 = .ok (.aload_n 0, 1) := by decide +kernel
theorem d_Fund_endAt_16 : decode kY_Fund_endAt.2.1 16 = .ok (.getfield 24, 3) := by decide +kernel
theorem d_Fund_endAt_19 : decode kY_Fund_endAt.2.1 19 = .ok (.iload_n 1, 1) := by decide +kernel
theorem d_Fund_endAt_20 : decode kY_Fund_endAt.2.1 20 = .ok (.invokevirtual 65, 3) := by decide +kernel
theorem d_Fund_endAt_23 : decode kY_Fund_endAt.2.1 23 = .ok (.checkcast 69, 3) := by decide +kernel
theorem d_Fund_endAt_26 : decode kY_Fund_endAt.2.1 26 = .ok (.goto 4, 3) := by decide +kernel
def w_Fund_endAt : List Nat := []
theorem tc_Fund_endAt {g : mj_G} {l : Launch} {d : Nat} {T0 : tm_H} {M0 : mj_M} {n0 x9 : Nat} {o0 : Nat} {x1 : Int32} (h_o0 : T0 o0 = some (0, 6, 0)) (I0 : tm_I tm_FT (tm_in w_Fund_endAt) x9 T0 M0 n0 T0 M0 n0) : mj_Met g l kY_Fund_endAt (d + 3) [.ref o0, .int x1] M0 n0 0 0 (tm_Q tm_FT (tm_in w_Fund_endAt) x9 T0 M0 n0 (fun r T _ => r = some .null ∨ ∃ b, r = some (.ref b) ∧ T b = some (0, 3, 0))) := by
  refine mj_enter (by decide) (Nat.le_of_ble_eq_true rfl) ?_
  refine mv_iload_n d_Fund_endAt_0 rfl rfl ?_
  have := mz_hi x1
  refine mv_if_ltZ (tgt := 29) (a := x1.toInt) d_Fund_endAt_1 (by decide) rfl (fun b1 => ?_) (fun b1 => ?_)
  · refine mv_null d_Fund_endAt_29 ?_
    exact mv_aret (r := none) d_Fund_endAt_30 rfl (by first | exact Or.inl ⟨_, rfl⟩ | exact Or.inr ⟨_, rfl⟩) ⟨_, I0, Or.inl rfl⟩
  · refine mv_iload_n d_Fund_endAt_4 rfl rfl ?_
    refine mv_aload_n d_Fund_endAt_5 rfl rfl ?_
    obtain ⟨a3, q2, t_a3⟩ := tm_atO I0 h_o0 (k := 11) rfl
    refine tr_getK q2 d_Fund_endAt_6 f_Fund_24_6 ?_
    obtain ⟨m5, n6, e7, N8, f9, h4⟩ := I0.1 _ _ t_a3
    have := h4.2.1
    have : n6.toInt ≤ 72 := h4.2.2.1
    refine mv_callV_s (kc' := 0) (ks' := 0) [] [.ref a3, .int x1] d_Fund_endAt_9 lV_Fund_61 h4.1 rfl (tc_L_size (d := (d + 2)) h4.1) rfl (Nat.le_of_ble_eq_true rfl) (Nat.le_of_ble_eq_true rfl) (Nat.le_of_ble_eq_true rfl) rfl ?_
    have := mz_hi x1
    have := mz_hi n6
    refine mv_icmp_geZ (tgt := 29) (a := x1.toInt) (b := n6.toInt) d_Fund_endAt_12 (by decide) rfl rfl (fun b10 => ?_) (fun b10 => ?_)
    · refine mv_null d_Fund_endAt_29 ?_
      exact mv_aret (r := none) d_Fund_endAt_30 rfl (by first | exact Or.inl ⟨_, rfl⟩ | exact Or.inr ⟨_, rfl⟩) ⟨_, I0, Or.inl rfl⟩
    · refine mv_aload_n d_Fund_endAt_15 rfl rfl ?_
      refine tr_getK (k := 11) q2 d_Fund_endAt_16 f_Fund_24_6 ?_
      refine mv_iload_n d_Fund_endAt_19 rfl rfl ?_
      obtain ⟨u11e, u11i, a12, u11f, u11t⟩ := tm_el (i := x1) h4 (by omega) (by omega)
      have t_a12 : T0 a12 = some (0, 3, 0) := u11t
      refine mv_callV_s (kc' := 0) (ks' := 0) [.int x1] [.int x1, .ref a3] d_Fund_endAt_20 lV_Fund_65 h4.1 rfl (tc_L_get (d := d) h4.1 u11e (by omega) (by omega) u11i u11f) rfl (Nat.le_of_ble_eq_true rfl) (Nat.le_of_ble_eq_true rfl) (Nat.le_of_ble_eq_true rfl) rfl ?_
      obtain ⟨_, b13, -⟩ := I0.1 _ _ t_a12
      refine mv_castS (T9 := kF_End) (N := 4) d_Fund_endAt_23 (mj_in1 (List.mem_of_getElem? (i := 751) (by decide +kernel)) rfl) b13 rfl ?_
      refine mv_goto (tgt := 30) d_Fund_endAt_26 (by decide) ?_
      exact mv_aret (r := some a12) d_Fund_endAt_30 rfl (by first | exact Or.inl ⟨_, rfl⟩ | exact Or.inr ⟨_, rfl⟩) ⟨_, I0, Or.inr ⟨_, rfl, t_a12⟩⟩
theorem lV_TrustDesk_359 : mj_lV "TrustDesk" 359 kY_Fund_endAt 1 := ⟨⟨(mj_in1 (List.mem_of_getElem? (i := 1077) (by decide +kernel)) rfl), (mj_in1 (List.mem_of_getElem? (i := 21) (by decide +kernel)) rfl), (mj_in1 (List.mem_of_getElem? (i := 1080) (by decide +kernel)) rfl), by decide, rfl, by decide⟩, (mj_in1 (List.mem_of_getElem? (i := 1078) (by decide +kernel)) rfl), (mj_in1 (List.mem_of_getElem? (i := 1079) (by decide +kernel)) rfl)⟩
theorem d_TrustDesk_canBe_92 : decode kY_TrustDesk_canBe.2.1 92 = .ok (.astore_n 3, 1) := by decide +kernel
theorem d_TrustDesk_canBe_93 : decode kY_TrustDesk_canBe.2.1 93 = .ok (.aload_n 3, 1) := by decide +kernel
theorem d_TrustDesk_canBe_94 : decode kY_TrustDesk_canBe.2.1 94 = .ok (.ifnull 15, 3) := by decide +kernel
theorem d_TrustDesk_canBe_109 : decode kY_TrustDesk_canBe.2.1 109 = .ok (.iconst 0, 1) := by decide +kernel
theorem d_TrustDesk_canBe_110 : decode kY_TrustDesk_canBe.2.1 110 = .ok (.ireturn, 1) := by decide +kernel
theorem d_TrustDesk_canBe_97 : decode kY_TrustDesk_canBe.2.1 97 = .ok (.aload_n 3, 1) := by decide +kernel
theorem d_TrustDesk_canBe_98 : decode kY_TrustDesk_canBe.2.1 98 = .ok (.getfield 193, 3) := by decide +kernel
theorem f_TrustDesk_193_3 : mj_fl "TrustDesk" 193 3 1 := ⟨kR_End, kF_End, 4, "TrustDesk$End", rfl, kg_3, by decide, (mj_in1 (List.mem_of_getElem? (i := 790) (by decide +kernel)) rfl), Or.inl rfl⟩
theorem d_TrustDesk_canBe_101 : decode kY_TrustDesk_canBe.2.1 101 = .ok (.iconst 2, 1) := by decide +kernel
theorem d_TrustDesk_canBe_102 : decode kY_TrustDesk_canBe.2.1 102 = .ok (.if_icmp .eq 7, 3) := by decide +kernel
theorem d_TrustDesk_canBe_105 : decode kY_TrustDesk_canBe.2.1 105 = .ok (.iconst 1, 1) := by decide +kernel
theorem d_TrustDesk_canBe_106 : decode kY_TrustDesk_canBe.2.1 106 = .ok (.goto 4, 3) := by decide +kernel
theorem d_TrustDesk_canBe_40 : decode kY_TrustDesk_canBe.2.1 40 = .ok (.aload_n 2, 1) := by decide +kernel
theorem d_TrustDesk_canBe_41 : decode kY_TrustDesk_canBe.2.1 41 = .ok (.invokevirtual 348, 3) := by decide +kernel
theorem d_TrustDesk_canBe_44 : decode kY_TrustDesk_canBe.2.1 44 = .ok (.ifnull 7, 3) := by decide +kernel
theorem d_TrustDesk_canBe_51 : decode kY_TrustDesk_canBe.2.1 51 = .ok (.iconst 0, 1) := by decide +kernel
theorem d_TrustDesk_canBe_52 : decode kY_TrustDesk_canBe.2.1 52 = .ok (.ireturn, 1) := by decide +kernel
theorem d_TrustDesk_canBe_47 : decode kY_TrustDesk_canBe.2.1 47 = .ok (.iconst 1, 1) := by decide +kernel
theorem d_TrustDesk_canBe_48 : decode kY_TrustDesk_canBe.2.1 48 = .ok (.goto 4, 3) := by decide +kernel
theorem d_TrustDesk_canBe_53 : decode kY_TrustDesk_canBe.2.1 53 = .ok (.aload_n 0, 1) := by decide +kernel
theorem d_TrustDesk_canBe_54 : decode kY_TrustDesk_canBe.2.1 54 = .ok (.aload_n 2, 1) := by decide +kernel
theorem d_TrustDesk_canBe_55 : decode kY_TrustDesk_canBe.2.1 55 = .ok (.aload_n 0, 1) := by decide +kernel
theorem d_TrustDesk_canBe_56 : decode kY_TrustDesk_canBe.2.1 56 = .ok (.aload_n 1, 1) := by decide +kernel
theorem d_TrustDesk_canBe_57 : decode kY_TrustDesk_canBe.2.1 57 = .ok (.getfield 311, 3) := by decide +kernel
theorem d_TrustDesk_canBe_60 : decode kY_TrustDesk_canBe.2.1 60 = .ok (.invokevirtual 257, 3) := by decide +kernel
theorem d_TrustDesk_canBe_63 : decode kY_TrustDesk_canBe.2.1 63 = .ok (.invokevirtual 352, 3) := by decide +kernel
abbrev kY_TrustDesk_canJoin : mj_Y := (⟨"TrustDesk", "canJoin", "(LTrustDesk$Fund;LTrustDesk$Fund;)Z"⟩, prog_1_method_27_code, 3, (Option.some Jvm.ClassFile.FieldType.boolean))
theorem d_TrustDesk_canJoin_0 : decode kY_TrustDesk_canJoin.2.1 0 = .ok (.aload_n 2, 1) := by decide +kernel
theorem d_TrustDesk_canJoin_1 : decode kY_TrustDesk_canJoin.2.1 1 = .ok (.ifnull 15, 3) := by decide +kernel
theorem d_TrustDesk_canJoin_16 : decode kY_TrustDesk_canJoin.2.1 16 = .ok (.iconst 0, 1) := by decide +kernel
theorem d_TrustDesk_canJoin_17 : decode kY_TrustDesk_canJoin.2.1 17 = .ok (.ireturn, 1) := by decide +kernel
def w_TrustDesk_canJoin_n2 : List Nat := []
theorem tc_TrustDesk_canJoin_n2 {g : mj_G} {l : Launch} {d : Nat} {T0 : tm_H} {M0 : mj_M} {n0 x9 : Nat} {o0 : Nat} {o1 : Nat} (h_o0 : T0 o0 = some (0, 12, 0)) (h_o1 : T0 o1 = some (0, 6, 0)) (I0 : tm_I tm_FT (tm_in w_TrustDesk_canJoin_n2) x9 T0 M0 n0 T0 M0 n0) : mj_Met g l kY_TrustDesk_canJoin d [.ref o0, .ref o1, .null] M0 n0 0 0 (tm_Q tm_FT (tm_in w_TrustDesk_canJoin_n2) x9 T0 M0 n0 (fun r _ _ => ∃ v : Int32, r = some (.int v) ∧ 0 ≤ v.toInt ∧ v.toInt ≤ 1)) := by
  refine mj_enter (by decide) (Nat.le_of_ble_eq_true rfl) ?_
  refine mv_aload_nN d_TrustDesk_canJoin_0 rfl rfl ?_
  refine mv_ifnullN (tgt := 16) d_TrustDesk_canJoin_1 (by decide) ?_
  refine mv_iconst (v := 0) d_TrustDesk_canJoin_16 (by decide) ?_
  exact mv_iret d_TrustDesk_canJoin_17 rfl (by decide) ⟨_, I0, _, rfl, by decide, by decide⟩
theorem lV_TrustDesk_352 : mj_lV "TrustDesk" 352 kY_TrustDesk_canJoin 2 := ⟨⟨(mj_in1 (List.mem_of_getElem? (i := 1065) (by decide +kernel)) rfl), (mj_in1 (List.mem_of_getElem? (i := 1) (by decide +kernel)) rfl), (mj_in1 (List.mem_of_getElem? (i := 1068) (by decide +kernel)) rfl), by decide, rfl, by decide⟩, (mj_in1 (List.mem_of_getElem? (i := 1067) (by decide +kernel)) rfl), (mj_in (List.mem_append_left _ (List.mem_of_getElem? (i := 56) (by decide +kernel))) rfl)⟩
theorem d_TrustDesk_canBe_66 : decode kY_TrustDesk_canBe.2.1 66 = .ok (.ireturn, 1) := by decide +kernel
theorem d_TrustDesk_canJoin_4 : decode kY_TrustDesk_canJoin.2.1 4 = .ok (.aload_n 2, 1) := by decide +kernel
theorem d_TrustDesk_canJoin_5 : decode kY_TrustDesk_canJoin.2.1 5 = .ok (.aload_n 1, 1) := by decide +kernel
theorem d_TrustDesk_canJoin_6 : decode kY_TrustDesk_canJoin.2.1 6 = .ok (.if_acmp .eq 10, 3) := by decide +kernel
theorem d_TrustDesk_canJoin_9 : decode kY_TrustDesk_canJoin.2.1 9 = .ok (.aload_n 2, 1) := by decide +kernel
theorem d_TrustDesk_canJoin_10 : decode kY_TrustDesk_canJoin.2.1 10 = .ok (.invokevirtual 162, 3) := by decide +kernel
theorem d_TrustDesk_canJoin_13 : decode kY_TrustDesk_canJoin.2.1 13 = .ok (.ifCond .eq 5, 3) := by decide +kernel
theorem d_TrustDesk_canJoin_18 : decode kY_TrustDesk_canJoin.2.1 18 = .ok (.aload_n 1, 1) := by decide +kernel
theorem d_TrustDesk_canJoin_19 : decode kY_TrustDesk_canJoin.2.1 19 = .ok (.invokevirtual 363, 3) := by decide +kernel
abbrev kY_Fund_endsThatStand : mj_Y := (⟨"TrustDesk$Fund", "endsThatStand", "()I"⟩, prog_7_method_10_code, 1, (Option.some Jvm.ClassFile.FieldType.int))
theorem d_Fund_endsThatStand_0 : decode kY_Fund_endsThatStand.2.1 0 = .ok (.aload_n 0, 1) := by decide +kernel
theorem d_Fund_endsThatStand_1 : decode kY_Fund_endsThatStand.2.1 1 = .ok (.getfield 24, 3) := by decide +kernel
theorem d_Fund_endsThatStand_4 : decode kY_Fund_endsThatStand.2.1 4 = .ok (.invokevirtual 61, 3) := by decide +kernel
theorem d_Fund_endsThatStand_7 : decode kY_Fund_endsThatStand.2.1 7 = .ok (.aload_n 0, 1) := by decide +kernel
theorem d_Fund_endsThatStand_8 : decode kY_Fund_endsThatStand.2.1 8 = .ok (.iconst 2, 1) := by decide +kernel
theorem d_Fund_endsThatStand_9 : decode kY_Fund_endsThatStand.2.1 9 = .ok (.invokevirtual 83, 3) := by decide +kernel
abbrev kY_Fund_endsIn : mj_Y := (⟨"TrustDesk$Fund", "endsIn", "(I)I"⟩, prog_7_method_9_code, 4, (Option.some Jvm.ClassFile.FieldType.int))
theorem d_Fund_endsIn_0 : decode kY_Fund_endsIn.2.1 0 = .ok (.iconst 0, 1) := by decide +kernel
theorem d_Fund_endsIn_1 : decode kY_Fund_endsIn.2.1 1 = .ok (.istore_n 2, 1) := by decide +kernel
theorem d_Fund_endsIn_2 : decode kY_Fund_endsIn.2.1 2 = .ok (.iconst 0, 1) := by decide +kernel
theorem d_Fund_endsIn_3 : decode kY_Fund_endsIn.2.1 3 = .ok (.istore_n 3, 1) := by decide +kernel
theorem d_Fund_endsIn_4 : decode kY_Fund_endsIn.2.1 4 = .ok (.iload_n 3, 1) := by decide +kernel
theorem d_Fund_endsIn_5 : decode kY_Fund_endsIn.2.1 5 = .ok (.aload_n 0, 1) := by decide +kernel
theorem d_Fund_endsIn_6 : decode kY_Fund_endsIn.2.1 6 = .ok (.getfield 24, 3) := by decide +kernel
theorem d_Fund_endsIn_9 : decode kY_Fund_endsIn.2.1 9 = .ok (.invokevirtual 61, 3) := by decide +kernel
theorem d_Fund_endsIn_12 : decode kY_Fund_endsIn.2.1 12 = .ok (.if_icmp .ge 30, 3) := by decide +kernel
theorem d_Fund_endsIn_42 : decode kY_Fund_endsIn.2.1 42 = .ok (.iload_n 2, 1) := by decide +kernel
theorem d_Fund_endsIn_43 : decode kY_Fund_endsIn.2.1 43 = .ok (.ireturn, 1) := by decide +kernel
theorem d_Fund_endsIn_15 : decode kY_Fund_endsIn.2.1 15 = .ok (.aload_n 0, 1) := by decide +kernel
theorem d_Fund_endsIn_16 : decode kY_Fund_endsIn.2.1 16 = .ok (.getfield 24, 3) := by decide +kernel
theorem d_Fund_endsIn_19 : decode kY_Fund_endsIn.2.1 19 = .ok (.iload_n 3, 1) := by decide +kernel
theorem d_Fund_endsIn_20 : decode kY_Fund_endsIn.2.1 20 = .ok (.invokevirtual 65, 3) := by decide +kernel
theorem d_Fund_endsIn_23 : decode kY_Fund_endsIn.2.1 23 = .ok (.checkcast 69, 3) := by decide +kernel
theorem d_Fund_endsIn_26 : decode kY_Fund_endsIn.2.1 26 = .ok (.getfield 80, 3) := by decide +kernel
theorem d_Fund_endsIn_29 : decode kY_Fund_endsIn.2.1 29 = .ok (.iload_n 1, 1) := by decide +kernel
theorem d_Fund_endsIn_30 : decode kY_Fund_endsIn.2.1 30 = .ok (.if_icmp .ne 6, 3) := by decide +kernel
theorem d_Fund_endsIn_36 : decode kY_Fund_endsIn.2.1 36 = .ok (.iinc 3 1, 3) := by decide +kernel
theorem d_Fund_endsIn_39 : decode kY_Fund_endsIn.2.1 39 = .ok (.goto (-35), 3) := by decide +kernel
theorem d_Fund_endsIn_33 : decode kY_Fund_endsIn.2.1 33 = .ok (.iinc 2 1, 3) := by decide +kernel
def w_Fund_endsIn : List Nat := []
theorem tc_Fund_endsIn {g : mj_G} {l : Launch} {d : Nat} {T0 : tm_H} {M0 : mj_M} {n0 x9 : Nat} {o0 : Nat} {x1 : Int32} (h_o0 : T0 o0 = some (0, 6, 0)) (I0 : tm_I tm_FT (tm_in w_Fund_endsIn) x9 T0 M0 n0 T0 M0 n0) : mj_Met g l kY_Fund_endsIn (d + 3) [.ref o0, .int x1] M0 n0 0 0 (tm_Q tm_FT (tm_in w_Fund_endsIn) x9 T0 M0 n0 (fun r _ _ => ∃ v : Int32, r = some (.int v))) := by
  refine mj_enter (by decide) (Nat.le_of_ble_eq_true rfl) ?_
  refine mv_iconst (v := 0) d_Fund_endsIn_0 (by decide) ?_
  refine mv_istore_n (lv' := [(2, .int 0), (0, .ref o0), (1, .int x1)]) d_Fund_endsIn_1 rfl (by decide) rfl ?_
  refine mv_iconst (v := 0) d_Fund_endsIn_2 (by decide) ?_
  refine mv_istore_n (lv' := [(3, .int 0), (2, .int 0), (0, .ref o0), (1, .int x1)]) d_Fund_endsIn_3 rfl (by decide) rfl ?_
  have L4_1 : ∀ (k : Nat) (i3_1 : Int32) (i2_1 : Int32) (T_1 : tm_H) (M_1 : mj_M) (n_1 : Nat), tm_I tm_FT (tm_in w_Fund_endsIn) x9 T0 M0 n0 T_1 M_1 n_1 → T_1 o0 = some (0, 6, 0) → 0 ≤ i3_1.toInt → 2147483647 - i3_1.toInt < (k : Int) → mj_V g l kY_Fund_endsIn (d + 3) 4 [(3, .int i3_1), (2, .int i2_1), (0, .ref o0), (1, .int x1)] [] M_1 n_1 0 0 (tm_Q tm_FT (tm_in w_Fund_endsIn) x9 T0 M0 n0 (fun r _ _ => ∃ v : Int32, r = some (.int v))) := by
    intro k1
    induction k1 with
    | zero =>
      intro i3_1 i2_1 T_1 M_1 n_1 I_1 h_q0_1 iv0_1 hk1
      have := mz_hi i3_1
      omega
    | succ k1 ih1 =>
      intro i3_1 i2_1 T_1 M_1 n_1 I_1 h_q0_1 iv0_1 hk1
      refine mv_iload_n d_Fund_endsIn_4 rfl rfl ?_
      refine mv_aload_n d_Fund_endsIn_5 rfl rfl ?_
      obtain ⟨a3, q2, t_a3⟩ := tm_atO I_1 h_q0_1 (k := 11) rfl
      refine tr_getK q2 d_Fund_endsIn_6 f_Fund_24_6 ?_
      obtain ⟨m5, n6, e7, N8, f9, h4⟩ := I_1.1 _ _ t_a3
      have := h4.2.1
      have : n6.toInt ≤ 72 := h4.2.2.1
      refine mv_callV_s (kc' := 0) (ks' := 0) [] [.ref a3, .int i3_1] d_Fund_endsIn_9 lV_Fund_61 h4.1 rfl (tc_L_size (d := (d + 2)) h4.1) rfl (Nat.le_of_ble_eq_true rfl) (Nat.le_of_ble_eq_true rfl) (Nat.le_of_ble_eq_true rfl) rfl ?_
      have := mz_hi i3_1
      have := mz_hi n6
      refine mv_icmp_geZ (tgt := 42) (a := i3_1.toInt) (b := n6.toInt) d_Fund_endsIn_12 (by decide) rfl rfl (fun b10 => ?_) (fun b10 => ?_)
      · refine mv_iload_n d_Fund_endsIn_42 rfl rfl ?_
        exact mv_iret d_Fund_endsIn_43 rfl (by first | rfl | decide) ⟨_, I_1, _, rfl⟩
      · refine mv_aload_n d_Fund_endsIn_15 rfl rfl ?_
        refine tr_getK (k := 11) q2 d_Fund_endsIn_16 f_Fund_24_6 ?_
        refine mv_iload_n d_Fund_endsIn_19 rfl rfl ?_
        obtain ⟨u11e, u11i, a12, u11f, u11t⟩ := tm_el (i := i3_1) h4 (by omega) (by omega)
        have t_a12 : T_1 a12 = some (0, 3, 0) := u11t
        refine mv_callV_s (kc' := 0) (ks' := 0) [.int i3_1] [.int i3_1, .ref a3] d_Fund_endsIn_20 lV_Fund_65 h4.1 rfl (tc_L_get (d := d) h4.1 u11e (by omega) (by omega) u11i u11f) rfl (Nat.le_of_ble_eq_true rfl) (Nat.le_of_ble_eq_true rfl) (Nat.le_of_ble_eq_true rfl) rfl ?_
        obtain ⟨_, b13, -⟩ := I_1.1 _ _ t_a12
        refine mv_castS (T9 := kF_End) (N := 4) d_Fund_endsIn_23 (mj_in1 (List.mem_of_getElem? (i := 751) (by decide +kernel)) rfl) b13 rfl ?_
        obtain ⟨v15, q14⟩ := tm_atI I_1 t_a12 (k := 1) rfl
        refine tr_getK q14 d_Fund_endsIn_26 f_Fund_80_3 ?_
        refine mv_iload_n d_Fund_endsIn_29 rfl rfl ?_
        have := mz_hi v15
        have := mz_hi x1
        refine mv_icmp_neZ (tgt := 36) (a := v15.toInt) (b := x1.toInt) d_Fund_endsIn_30 (by decide) rfl rfl (fun b16 => ?_) (fun b16 => ?_)
        · refine mv_iinc (v := (i3_1 + 1)) (lv' := [(3, .int (i3_1 + 1)), (2, .int i2_1), (0, .ref o0), (1, .int x1)]) d_Fund_endsIn_36 rfl rfl (by decide) rfl ?_
          refine mv_goto (tgt := 4) d_Fund_endsIn_39 (by decide) ?_
          have b17 : (i3_1 + 1).toInt = i3_1.toInt + 1 := mz_addn 1 1 (by decide) (by have := mz_lo i3_1; omega) (by have := mz_hi i3_1; omega)
          exact ih1 (i3_1 + 1) i2_1 T_1 M_1 n_1 I_1 h_q0_1 (by first | omega | decide) (by omega)
        · refine mv_iinc (v := (i2_1 + 1)) (lv' := [(2, .int (i2_1 + 1)), (3, .int i3_1), (0, .ref o0), (1, .int x1)]) d_Fund_endsIn_33 rfl rfl (by decide) rfl ?_
          refine mv_iinc (v := (i3_1 + 1)) (lv' := [(3, .int (i3_1 + 1)), (2, .int (i2_1 + 1)), (0, .ref o0), (1, .int x1)]) d_Fund_endsIn_36 rfl rfl (by decide) rfl ?_
          refine mv_goto (tgt := 4) d_Fund_endsIn_39 (by decide) ?_
          have b18 : (i3_1 + 1).toInt = i3_1.toInt + 1 := mz_addn 1 1 (by decide) (by have := mz_lo i3_1; omega) (by have := mz_hi i3_1; omega)
          exact ih1 (i3_1 + 1) (i2_1 + 1) T_1 M_1 n_1 I_1 h_q0_1 (by first | omega | decide) (by omega)
  exact L4_1 4294967296 0 0 T0 M0 n0 I0 h_o0 (by first | omega | decide) (by show (2147483647 : Int) - _ < _; decide)
theorem lV_Fund_83 : mj_lV "TrustDesk$Fund" 83 kY_Fund_endsIn 1 := ⟨⟨(mj_in1 (List.mem_of_getElem? (i := 1073) (by decide +kernel)) rfl), (mj_in1 (List.mem_of_getElem? (i := 21) (by decide +kernel)) rfl), (mj_in1 (List.mem_of_getElem? (i := 1076) (by decide +kernel)) rfl), by decide, rfl, by decide⟩, (mj_in1 (List.mem_of_getElem? (i := 1074) (by decide +kernel)) rfl), (mj_in1 (List.mem_of_getElem? (i := 1075) (by decide +kernel)) rfl)⟩
theorem d_Fund_endsThatStand_12 : decode kY_Fund_endsThatStand.2.1 12 = .ok (.isub, 1) := by decide +kernel
theorem d_Fund_endsThatStand_13 : decode kY_Fund_endsThatStand.2.1 13 = .ok (.ireturn, 1) := by decide +kernel
def w_Fund_endsThatStand : List Nat := []
theorem tc_Fund_endsThatStand {g : mj_G} {l : Launch} {d : Nat} {T0 : tm_H} {M0 : mj_M} {n0 x9 : Nat} {o0 : Nat} (h_o0 : T0 o0 = some (0, 6, 0)) (I0 : tm_I tm_FT (tm_in w_Fund_endsThatStand) x9 T0 M0 n0 T0 M0 n0) : mj_Met g l kY_Fund_endsThatStand (d + 4) [.ref o0] M0 n0 0 0 (tm_Q tm_FT (tm_in w_Fund_endsThatStand) x9 T0 M0 n0 (fun r _ _ => ∃ v : Int32, r = some (.int v))) := by
  refine mj_enter (by decide) (Nat.le_of_ble_eq_true rfl) ?_
  refine mv_aload_n d_Fund_endsThatStand_0 rfl rfl ?_
  obtain ⟨a2, q1, t_a2⟩ := tm_atO I0 h_o0 (k := 11) rfl
  refine tr_getK q1 d_Fund_endsThatStand_1 f_Fund_24_6 ?_
  obtain ⟨m4, n5, e6, N7, f8, h3⟩ := I0.1 _ _ t_a2
  have := h3.2.1
  have : n5.toInt ≤ 72 := h3.2.2.1
  refine mv_callV_s (kc' := 0) (ks' := 0) [] [.ref a2] d_Fund_endsThatStand_4 lV_Fund_61 h3.1 rfl (tc_L_size (d := (d + 3)) h3.1) rfl (Nat.le_of_ble_eq_true rfl) (Nat.le_of_ble_eq_true rfl) (Nat.le_of_ble_eq_true rfl) rfl ?_
  refine mv_aload_n d_Fund_endsThatStand_7 rfl rfl ?_
  refine mv_iconst (v := 2) d_Fund_endsThatStand_8 (by decide) ?_
  obtain ⟨_, b15, -⟩ := I0.1 _ _ h_o0
  refine mv_callV (kc' := 0) (ks' := 0) (As := [.int 2]) (st9 := [.int 2, .ref o0, .int n5]) d_Fund_endsThatStand_9 lV_Fund_83 b15 rfl (tc_Fund_endsIn (d := d) (x9 := x9) (o0 := o0) (x1 := 2) h_o0 I0.start) rfl (Nat.le_of_ble_eq_true rfl) (Nat.le_of_ble_eq_true rfl) (Nat.le_of_ble_eq_true rfl) (hst := rfl) (fun b9r M10 n11 b9 => ?_)
  obtain ⟨T12, J13, v16, rfl⟩ := b9
  have I14 := I0.call J13 (tm_sub (by decide)) (Or.inl rfl)
  have t17 := J13.up h_o0
  have q18 := J13.keep h_o0 (by decide) q1
  have t19 := J13.up t_a2
  refine mv_isub d_Fund_endsThatStand_12 ?_
  exact mv_iret d_Fund_endsThatStand_13 rfl (by first | rfl | decide) ⟨_, I14, _, rfl⟩
theorem lV_TrustDesk_363 : mj_lV "TrustDesk" 363 kY_Fund_endsThatStand 0 := ⟨⟨(mj_in1 (List.mem_of_getElem? (i := 1069) (by decide +kernel)) rfl), (mj_in1 (List.mem_of_getElem? (i := 21) (by decide +kernel)) rfl), (mj_in1 (List.mem_of_getElem? (i := 1072) (by decide +kernel)) rfl), by decide, rfl, by decide⟩, (mj_in1 (List.mem_of_getElem? (i := 1070) (by decide +kernel)) rfl), (mj_in1 (List.mem_of_getElem? (i := 1071) (by decide +kernel)) rfl)⟩
theorem d_TrustDesk_canJoin_22 : decode kY_TrustDesk_canJoin.2.1 22 = .ok (.aload_n 2, 1) := by decide +kernel
theorem d_TrustDesk_canJoin_23 : decode kY_TrustDesk_canJoin.2.1 23 = .ok (.invokevirtual 363, 3) := by decide +kernel
theorem d_TrustDesk_canJoin_26 : decode kY_TrustDesk_canJoin.2.1 26 = .ok (.iadd, 1) := by decide +kernel
theorem d_TrustDesk_canJoin_27 : decode kY_TrustDesk_canJoin.2.1 27 = .ok (.bipush 12, 2) := by decide +kernel
theorem d_TrustDesk_canJoin_29 : decode kY_TrustDesk_canJoin.2.1 29 = .ok (.if_icmp .gt 7, 3) := by decide +kernel
theorem d_TrustDesk_canJoin_36 : decode kY_TrustDesk_canJoin.2.1 36 = .ok (.iconst 0, 1) := by decide +kernel
theorem d_TrustDesk_canJoin_37 : decode kY_TrustDesk_canJoin.2.1 37 = .ok (.ireturn, 1) := by decide +kernel
theorem d_TrustDesk_canJoin_32 : decode kY_TrustDesk_canJoin.2.1 32 = .ok (.iconst 1, 1) := by decide +kernel
theorem d_TrustDesk_canJoin_33 : decode kY_TrustDesk_canJoin.2.1 33 = .ok (.goto 4, 3) := by decide +kernel
def w_TrustDesk_canJoin : List Nat := []
theorem tc_TrustDesk_canJoin {g : mj_G} {l : Launch} {d : Nat} {T0 : tm_H} {M0 : mj_M} {n0 x9 : Nat} {o0 : Nat} {o1 : Nat} {o2 : Nat} (h_o0 : T0 o0 = some (0, 12, 0)) (h_o1 : T0 o1 = some (0, 6, 0)) (h_o2 : T0 o2 = some (0, 6, 0)) (I0 : tm_I tm_FT (tm_in w_TrustDesk_canJoin) x9 T0 M0 n0 T0 M0 n0) : mj_Met g l kY_TrustDesk_canJoin (d + 5) [.ref o0, .ref o1, .ref o2] M0 n0 0 0 (tm_Q tm_FT (tm_in w_TrustDesk_canJoin) x9 T0 M0 n0 (fun r _ _ => ∃ v : Int32, r = some (.int v) ∧ 0 ≤ v.toInt ∧ v.toInt ≤ 1)) := by
  refine mj_enter (by decide) (Nat.le_of_ble_eq_true rfl) ?_
  refine mv_aload_n d_TrustDesk_canJoin_0 rfl rfl ?_
  refine mv_ifnull d_TrustDesk_canJoin_1 ?_
  refine mv_aload_n d_TrustDesk_canJoin_4 rfl rfl ?_
  refine mv_aload_n d_TrustDesk_canJoin_5 rfl rfl ?_
  refine mv_acmp_eqR (tgt := 16) d_TrustDesk_canJoin_6 (by decide) (I0.2.1 _ _ h_o2).1 (I0.2.1 _ _ h_o1).1 (fun b1 => ?_) (fun b1 => ?_)
  · refine mv_iconst (v := 0) d_TrustDesk_canJoin_16 (by decide) ?_
    exact mv_iret d_TrustDesk_canJoin_17 rfl (by decide) ⟨_, I0, _, rfl, by decide, by decide⟩
  · refine mv_aload_n d_TrustDesk_canJoin_9 rfl rfl ?_
    obtain ⟨_, b8, -⟩ := I0.1 _ _ h_o2
    refine mv_callV (kc' := 0) (ks' := 0) (As := []) (st9 := [.ref o2]) d_TrustDesk_canJoin_10 lV_TrustDesk_162 b8 rfl (tc_Fund_isJoined (d := (d + 4)) (x9 := x9) (o0 := o2) h_o2 I0.start) rfl (Nat.le_of_ble_eq_true rfl) (Nat.le_of_ble_eq_true rfl) (Nat.le_of_ble_eq_true rfl) (hst := rfl) (fun b2r M3 n4 b2 => ?_)
    obtain ⟨T5, J6, v9, rfl, b10, b11⟩ := b2
    have I7 := I0.call J6 (tm_sub (by decide)) (Or.inl rfl)
    have t12 := J6.up h_o0
    have t13 := J6.up h_o1
    have t14 := J6.up h_o2
    have := mz_hi v9
    refine mv_if_eqZ (tgt := 18) (a := v9.toInt) d_TrustDesk_canJoin_13 (by decide) rfl (fun b15 => ?_) (fun b15 => ?_)
    · refine mv_aload_n d_TrustDesk_canJoin_18 rfl rfl ?_
      obtain ⟨_, b22, -⟩ := I7.1 _ _ t13
      refine mv_callV (kc' := 0) (ks' := 0) (As := []) (st9 := [.ref o1]) d_TrustDesk_canJoin_19 lV_TrustDesk_363 b22 rfl (tc_Fund_endsThatStand (d := d) (x9 := x9) (o0 := o1) t13 I7.start) rfl (Nat.le_of_ble_eq_true rfl) (Nat.le_of_ble_eq_true rfl) (Nat.le_of_ble_eq_true rfl) (hst := rfl) (fun b16r M17 n18 b16 => ?_)
      obtain ⟨T19, J20, v23, rfl⟩ := b16
      have I21 := I7.call J20 (tm_sub (by decide)) (Or.inl rfl)
      have t24 := J20.up t12
      have t25 := J20.up t13
      have t26 := J20.up t14
      refine mv_aload_n d_TrustDesk_canJoin_22 rfl rfl ?_
      obtain ⟨_, b33, -⟩ := I21.1 _ _ t26
      refine mv_callV (kc' := 0) (ks' := 0) (As := []) (st9 := [.ref o2, .int v23]) d_TrustDesk_canJoin_23 lV_TrustDesk_363 b33 rfl (tc_Fund_endsThatStand (d := d) (x9 := x9) (o0 := o2) t26 I21.start) rfl (Nat.le_of_ble_eq_true rfl) (Nat.le_of_ble_eq_true rfl) (Nat.le_of_ble_eq_true rfl) (hst := rfl) (fun b27r M28 n29 b27 => ?_)
      obtain ⟨T30, J31, v34, rfl⟩ := b27
      have I32 := I21.call J31 (tm_sub (by decide)) (Or.inl rfl)
      have t35 := J31.up t24
      have t36 := J31.up t25
      have t37 := J31.up t26
      refine mv_iadd d_TrustDesk_canJoin_26 ?_
      refine mv_bipush (v := 12) d_TrustDesk_canJoin_27 (by decide) ?_
      have := mz_hi (v23 + v34)
      refine mv_icmp_gtZ (tgt := 36) (a := (v23 + v34).toInt) (b := 12) d_TrustDesk_canJoin_29 (by decide) rfl (by decide) (fun b38 => ?_) (fun b38 => ?_)
      · refine mv_iconst (v := 0) d_TrustDesk_canJoin_36 (by decide) ?_
        exact mv_iret d_TrustDesk_canJoin_37 rfl (by decide) ⟨_, I32, _, rfl, by decide, by decide⟩
      · refine mv_iconst (v := 1) d_TrustDesk_canJoin_32 (by decide) ?_
        refine mv_goto (tgt := 37) d_TrustDesk_canJoin_33 (by decide) ?_
        exact mv_iret d_TrustDesk_canJoin_37 rfl (by decide) ⟨_, I32, _, rfl, by decide, by decide⟩
    · refine mv_iconst (v := 0) d_TrustDesk_canJoin_16 (by decide) ?_
      exact mv_iret d_TrustDesk_canJoin_17 rfl (by decide) ⟨_, I7, _, rfl, by decide, by decide⟩
theorem d_TrustDesk_canBe_67 : decode kY_TrustDesk_canBe.2.1 67 = .ok (.aload_n 2, 1) := by decide +kernel
theorem d_TrustDesk_canBe_68 : decode kY_TrustDesk_canBe.2.1 68 = .ok (.getfield 356, 3) := by decide +kernel
theorem f_TrustDesk_356_6 : mj_fl "TrustDesk" 356 6 1 := ⟨kR_Fund, kF_Fund, 15, "TrustDesk$Fund", rfl, kg_6, by decide, (mj_in1 (List.mem_of_getElem? (i := 667) (by decide +kernel)) rfl), Or.inl rfl⟩
theorem d_TrustDesk_canBe_71 : decode kY_TrustDesk_canBe.2.1 71 = .ok (.aload_n 1, 1) := by decide +kernel
theorem d_TrustDesk_canBe_72 : decode kY_TrustDesk_canBe.2.1 72 = .ok (.getfield 311, 3) := by decide +kernel
theorem d_TrustDesk_canBe_75 : decode kY_TrustDesk_canBe.2.1 75 = .ok (.if_icmp .lt 7, 3) := by decide +kernel
theorem d_TrustDesk_canBe_82 : decode kY_TrustDesk_canBe.2.1 82 = .ok (.iconst 0, 1) := by decide +kernel
theorem d_TrustDesk_canBe_83 : decode kY_TrustDesk_canBe.2.1 83 = .ok (.ireturn, 1) := by decide +kernel
theorem d_TrustDesk_canBe_78 : decode kY_TrustDesk_canBe.2.1 78 = .ok (.iconst 1, 1) := by decide +kernel
theorem d_TrustDesk_canBe_79 : decode kY_TrustDesk_canBe.2.1 79 = .ok (.goto 4, 3) := by decide +kernel
theorem d_TrustDesk_canBe_7 : decode kY_TrustDesk_canBe.2.1 7 = .ok (.iconst 0, 1) := by decide +kernel
theorem d_TrustDesk_canBe_8 : decode kY_TrustDesk_canBe.2.1 8 = .ok (.ireturn, 1) := by decide +kernel
def w_TrustDesk_canBe : List Nat := []
theorem tc_TrustDesk_canBe {g : mj_G} {l : Launch} {d : Nat} {T0 : tm_H} {M0 : mj_M} {n0 x9 : Nat} {o0 : Nat} {o1 : Nat} {o2 : Nat} (h_o0 : T0 o0 = some (0, 12, 0)) (h_o1 : T0 o1 = some (0, 11, 0)) (h_o2 : T0 o2 = some (0, 6, 0)) (I0 : tm_I tm_FT (tm_in w_TrustDesk_canBe) x9 T0 M0 n0 T0 M0 n0) : mj_Met g l kY_TrustDesk_canBe (d + 6) [.ref o0, .ref o1, .ref o2] M0 n0 0 0 (tm_Q tm_FT (tm_in w_TrustDesk_canBe) x9 T0 M0 n0 (fun r _ _ => ∃ v : Int32, r = some (.int v) ∧ 0 ≤ v.toInt ∧ v.toInt ≤ 1)) := by
  refine mj_enter (by decide) (Nat.le_of_ble_eq_true rfl) ?_
  refine mv_aload_n d_TrustDesk_canBe_0 rfl rfl ?_
  obtain ⟨_, b7, -⟩ := I0.1 _ _ h_o2
  refine mv_callV (kc' := 0) (ks' := 0) (As := []) (st9 := [.ref o2]) d_TrustDesk_canBe_1 lV_TrustDesk_162 b7 rfl (tc_Fund_isJoined (d := (d + 5)) (x9 := x9) (o0 := o2) h_o2 I0.start) rfl (Nat.le_of_ble_eq_true rfl) (Nat.le_of_ble_eq_true rfl) (Nat.le_of_ble_eq_true rfl) (hst := rfl) (fun b1r M2 n3 b1 => ?_)
  obtain ⟨T4, J5, v8, rfl, b9, b10⟩ := b1
  have I6 := I0.call J5 (tm_sub (by decide)) (Or.inl rfl)
  have t11 := J5.up h_o0
  have t12 := J5.up h_o1
  have t13 := J5.up h_o2
  have := mz_hi v8
  refine mv_if_eqZ (tgt := 9) (a := v8.toInt) d_TrustDesk_canBe_4 (by decide) rfl (fun b14 => ?_) (fun b14 => ?_)
  · refine mv_aload_n d_TrustDesk_canBe_9 rfl rfl ?_
    obtain ⟨v16, q15⟩ := tm_atI I6 t12 (k := 0) rfl
    refine tr_getK q15 d_TrustDesk_canBe_10 f_TrustDesk_308_11 ?_
    rcases (show (v16.toInt < 0 ∨ 2 < v16.toInt) ∨ v16.toInt = 0 ∨ v16.toInt = 1 ∨ v16.toInt = 2 by omega) with b17 | b17 | b17 | b17
    · refine mv_tableOut (tgt := 84) d_TrustDesk_canBe_13 b17 (by decide) ?_
      refine mv_aload_n d_TrustDesk_canBe_84 rfl rfl ?_
      refine mv_aload_n d_TrustDesk_canBe_85 rfl rfl ?_
      obtain ⟨v19, q18⟩ := tm_atI I6 t12 (k := 2) rfl
      refine tr_getK q18 d_TrustDesk_canBe_86 f_TrustDesk_311_11 ?_
      obtain ⟨_, b26, -⟩ := I6.1 _ _ t13
      refine mv_callV (kc' := 0) (ks' := 0) (As := [.int v19]) (st9 := [.int v19, .ref o2]) d_TrustDesk_canBe_89 lV_TrustDesk_359 b26 rfl (tc_Fund_endAt (d := (d + 2)) (x9 := x9) (o0 := o2) (x1 := v19) t13 I6.start) rfl (Nat.le_of_ble_eq_true rfl) (Nat.le_of_ble_eq_true rfl) (Nat.le_of_ble_eq_true rfl) (hst := rfl) (fun b20r M21 n22 b20 => ?_)
      obtain ⟨T23, J24, b28⟩ := b20
      have I25 := I6.call J24 (tm_sub (by decide)) (Or.inl rfl)
      have t29 := J24.up t11
      have t30 := J24.up t12
      have t31 := J24.up t13
      have q32 := J24.keep t12 (by decide) q15
      have q33 := J24.keep t12 (by decide) q18
      rcases b28 with rfl | ⟨a27, rfl, t_a27⟩
      · refine mv_astore_nN (lv' := [(3, .null), (0, .ref o0), (1, .ref o1), (2, .ref o2)]) d_TrustDesk_canBe_92 rfl (by decide) rfl ?_
        refine mv_aload_nN d_TrustDesk_canBe_93 rfl rfl ?_
        refine mv_ifnullN (tgt := 109) d_TrustDesk_canBe_94 (by decide) ?_
        refine mv_iconst (v := 0) d_TrustDesk_canBe_109 (by decide) ?_
        exact mv_iret d_TrustDesk_canBe_110 rfl (by decide) ⟨_, I25, _, rfl, by decide, by decide⟩
      · refine mv_astore_n (lv' := [(3, .ref a27), (0, .ref o0), (1, .ref o1), (2, .ref o2)]) d_TrustDesk_canBe_92 rfl (by decide) rfl ?_
        refine mv_aload_n d_TrustDesk_canBe_93 rfl rfl ?_
        refine mv_ifnull d_TrustDesk_canBe_94 ?_
        refine mv_aload_n d_TrustDesk_canBe_97 rfl rfl ?_
        obtain ⟨v35, q34⟩ := tm_atI I25 t_a27 (k := 1) rfl
        refine tr_getK q34 d_TrustDesk_canBe_98 f_TrustDesk_193_3 ?_
        refine mv_iconst (v := 2) d_TrustDesk_canBe_101 (by decide) ?_
        have := mz_hi v35
        refine mv_icmp_eqZ (tgt := 109) (a := v35.toInt) (b := 2) d_TrustDesk_canBe_102 (by decide) rfl (by decide) (fun b36 => ?_) (fun b36 => ?_)
        · refine mv_iconst (v := 0) d_TrustDesk_canBe_109 (by decide) ?_
          exact mv_iret d_TrustDesk_canBe_110 rfl (by decide) ⟨_, I25, _, rfl, by decide, by decide⟩
        · refine mv_iconst (v := 1) d_TrustDesk_canBe_105 (by decide) ?_
          refine mv_goto (tgt := 110) d_TrustDesk_canBe_106 (by decide) ?_
          exact mv_iret d_TrustDesk_canBe_110 rfl (by decide) ⟨_, I25, _, rfl, by decide, by decide⟩
    · refine mv_tableIn (tgt := 40) (off := 27) d_TrustDesk_canBe_13 (by omega) (by omega) (by rw [b17]; rfl) (by decide) ?_
      refine mv_aload_n d_TrustDesk_canBe_40 rfl rfl ?_
      obtain ⟨_, b43, -⟩ := I6.1 _ _ t13
      refine mv_callV (kc' := 0) (ks' := 0) (As := []) (st9 := [.ref o2]) d_TrustDesk_canBe_41 lV_TrustDesk_348 b43 rfl (tc_Fund_firstDead (d := (d + 2)) (x9 := x9) (o0 := o2) t13 I6.start) rfl (Nat.le_of_ble_eq_true rfl) (Nat.le_of_ble_eq_true rfl) (Nat.le_of_ble_eq_true rfl) (hst := rfl) (fun b37r M38 n39 b37 => ?_)
      obtain ⟨T40, J41, b45⟩ := b37
      have I42 := I6.call J41 (tm_sub (by decide)) (Or.inl rfl)
      have t46 := J41.up t11
      have t47 := J41.up t12
      have t48 := J41.up t13
      have q49 := J41.keep t12 (by decide) q15
      rcases b45 with rfl | ⟨a44, rfl, t_a44⟩
      · refine mv_ifnullN (tgt := 51) d_TrustDesk_canBe_44 (by decide) ?_
        refine mv_iconst (v := 0) d_TrustDesk_canBe_51 (by decide) ?_
        exact mv_iret d_TrustDesk_canBe_52 rfl (by decide) ⟨_, I42, _, rfl, by decide, by decide⟩
      · refine mv_ifnull d_TrustDesk_canBe_44 ?_
        refine mv_iconst (v := 1) d_TrustDesk_canBe_47 (by decide) ?_
        refine mv_goto (tgt := 52) d_TrustDesk_canBe_48 (by decide) ?_
        exact mv_iret d_TrustDesk_canBe_52 rfl (by decide) ⟨_, I42, _, rfl, by decide, by decide⟩
    · refine mv_tableIn (tgt := 53) (off := 40) d_TrustDesk_canBe_13 (by omega) (by omega) (by rw [b17]; rfl) (by decide) ?_
      refine mv_aload_n d_TrustDesk_canBe_53 rfl rfl ?_
      refine mv_aload_n d_TrustDesk_canBe_54 rfl rfl ?_
      refine mv_aload_n d_TrustDesk_canBe_55 rfl rfl ?_
      refine mv_aload_n d_TrustDesk_canBe_56 rfl rfl ?_
      obtain ⟨v51, q50⟩ := tm_atI I6 t12 (k := 2) rfl
      refine tr_getK q50 d_TrustDesk_canBe_57 f_TrustDesk_311_11 ?_
      obtain ⟨_, b58, -⟩ := I6.1 _ _ t11
      refine mv_callV (kc' := 0) (ks' := 0) (As := [.int v51]) (st9 := [.int v51, .ref o0, .ref o2, .ref o0]) d_TrustDesk_canBe_60 lV_TrustDesk_257 b58 rfl (tc_TrustDesk_fundAt (d := (d + 2)) (x9 := x9) (o0 := o0) (x1 := v51) t11 I6.start) rfl (Nat.le_of_ble_eq_true rfl) (Nat.le_of_ble_eq_true rfl) (Nat.le_of_ble_eq_true rfl) (hst := rfl) (fun b52r M53 n54 b52 => ?_)
      obtain ⟨T55, J56, b60⟩ := b52
      have I57 := I6.call J56 (tm_sub (by decide)) (Or.inl rfl)
      have t61 := J56.up t11
      have t62 := J56.up t12
      have t63 := J56.up t13
      have q64 := J56.keep t12 (by decide) q15
      have q65 := J56.keep t12 (by decide) q50
      rcases b60 with rfl | ⟨a59, rfl, t_a59⟩
      · obtain ⟨_, b72, -⟩ := I57.1 _ _ t61
        refine mv_callV (kc' := 0) (ks' := 0) (As := [.ref o2, .null]) (st9 := [.null, .ref o2, .ref o0]) d_TrustDesk_canBe_63 lV_TrustDesk_352 b72 rfl (tc_TrustDesk_canJoin_n2 (d := (d + 5)) (x9 := x9) (o0 := o0) (o1 := o2) t61 t63 I57.start) rfl (Nat.le_of_ble_eq_true rfl) (Nat.le_of_ble_eq_true rfl) (Nat.le_of_ble_eq_true rfl) (hst := rfl) (fun b66r M67 n68 b66 => ?_)
        obtain ⟨T69, J70, v73, rfl, b74, b75⟩ := b66
        have I71 := I57.call J70 (tm_sub (by decide)) (Or.inl rfl)
        have t76 := J70.up t61
        have t77 := J70.up t62
        have t78 := J70.up t63
        have q79 := J70.keep t62 (by decide) q64
        have q80 := J70.keep t62 (by decide) q65
        exact mv_iret d_TrustDesk_canBe_66 rfl (mz_nb (by omega) (by omega)) ⟨_, I71, _, rfl, by omega, by omega⟩
      · obtain ⟨_, b87, -⟩ := I57.1 _ _ t61
        refine mv_callV (kc' := 0) (ks' := 0) (As := [.ref o2, .ref a59]) (st9 := [.ref a59, .ref o2, .ref o0]) d_TrustDesk_canBe_63 lV_TrustDesk_352 b87 rfl (tc_TrustDesk_canJoin (d := d) (x9 := x9) (o0 := o0) (o1 := o2) (o2 := a59) t61 t63 t_a59 I57.start) rfl (Nat.le_of_ble_eq_true rfl) (Nat.le_of_ble_eq_true rfl) (Nat.le_of_ble_eq_true rfl) (hst := rfl) (fun b81r M82 n83 b81 => ?_)
        obtain ⟨T84, J85, v88, rfl, b89, b90⟩ := b81
        have I86 := I57.call J85 (tm_sub (by decide)) (Or.inl rfl)
        have t91 := J85.up t61
        have t92 := J85.up t62
        have t93 := J85.up t63
        have q94 := J85.keep t62 (by decide) q64
        have q95 := J85.keep t62 (by decide) q65
        exact mv_iret d_TrustDesk_canBe_66 rfl (mz_nb (by omega) (by omega)) ⟨_, I86, _, rfl, by omega, by omega⟩
    · refine mv_tableIn (tgt := 67) (off := 54) d_TrustDesk_canBe_13 (by omega) (by omega) (by rw [b17]; rfl) (by decide) ?_
      refine mv_aload_n d_TrustDesk_canBe_67 rfl rfl ?_
      obtain ⟨v97, q96⟩ := tm_atI I6 t13 (k := 1) rfl
      refine tr_getK q96 d_TrustDesk_canBe_68 f_TrustDesk_356_6 ?_
      refine mv_aload_n d_TrustDesk_canBe_71 rfl rfl ?_
      obtain ⟨v99, q98⟩ := tm_atI I6 t12 (k := 2) rfl
      refine tr_getK q98 d_TrustDesk_canBe_72 f_TrustDesk_311_11 ?_
      have := mz_hi v97
      have := mz_hi v99
      refine mv_icmp_ltZ (tgt := 82) (a := v97.toInt) (b := v99.toInt) d_TrustDesk_canBe_75 (by decide) rfl rfl (fun b100 => ?_) (fun b100 => ?_)
      · refine mv_iconst (v := 0) d_TrustDesk_canBe_82 (by decide) ?_
        exact mv_iret d_TrustDesk_canBe_83 rfl (by decide) ⟨_, I6, _, rfl, by decide, by decide⟩
      · refine mv_iconst (v := 1) d_TrustDesk_canBe_78 (by decide) ?_
        refine mv_goto (tgt := 83) d_TrustDesk_canBe_79 (by decide) ?_
        exact mv_iret d_TrustDesk_canBe_83 rfl (by decide) ⟨_, I6, _, rfl, by decide, by decide⟩
  · refine mv_iconst (v := 0) d_TrustDesk_canBe_7 (by decide) ?_
    exact mv_iret d_TrustDesk_canBe_8 rfl (by decide) ⟨_, I6, _, rfl, by decide, by decide⟩
abbrev kY_TrustDesk_canGather : mj_Y := (⟨"TrustDesk", "canGather", "(I)Z"⟩, prog_1_method_54_code, 4, (Option.some Jvm.ClassFile.FieldType.boolean))
theorem d_TrustDesk_canGather_0 : decode kY_TrustDesk_canGather.2.1 0 = .ok (.iload_n 1, 1) := by decide +kernel
theorem d_TrustDesk_canGather_1 : decode kY_TrustDesk_canGather.2.1 1 = .ok (.invokestatic 337, 3) := by decide +kernel
abbrev kY_Integer_bitCount : mj_Y := (⟨"java/lang/Integer", "bitCount", "(I)I"⟩, prog_20_method_49_code, 1, (Option.some Jvm.ClassFile.FieldType.int))
theorem d_Integer_bitCount_0 : decode kY_Integer_bitCount.2.1 0 = .ok (.iload_n 0, 1) := by decide +kernel
theorem d_Integer_bitCount_1 : decode kY_Integer_bitCount.2.1 1 = .ok (.iload_n 0, 1) := by decide +kernel
theorem d_Integer_bitCount_2 : decode kY_Integer_bitCount.2.1 2 = .ok (.iconst 1, 1) := by decide +kernel
theorem d_Integer_bitCount_3 : decode kY_Integer_bitCount.2.1 3 = .ok (.iushr, 1) := by decide +kernel
theorem d_Integer_bitCount_4 : decode kY_Integer_bitCount.2.1 4 = .ok (.ldc_w 265, 3) := by decide +kernel
theorem k_Integer_265 : Cond.constant "java/lang/Integer" 265 1431655765 ∈ mj_T := (mj_in1 (List.mem_of_getElem? (i := 1092) (by decide +kernel)) rfl)
theorem d_Integer_bitCount_7 : decode kY_Integer_bitCount.2.1 7 = .ok (.iand, 1) := by decide +kernel
theorem d_Integer_bitCount_8 : decode kY_Integer_bitCount.2.1 8 = .ok (.isub, 1) := by decide +kernel
theorem d_Integer_bitCount_9 : decode kY_Integer_bitCount.2.1 9 = .ok (.istore_n 0, 1) := by decide +kernel
theorem d_Integer_bitCount_10 : decode kY_Integer_bitCount.2.1 10 = .ok (.iload_n 0, 1) := by decide +kernel
theorem d_Integer_bitCount_11 : decode kY_Integer_bitCount.2.1 11 = .ok (.ldc_w 266, 3) := by decide +kernel
theorem k_Integer_266 : Cond.constant "java/lang/Integer" 266 858993459 ∈ mj_T := (mj_in1 (List.mem_of_getElem? (i := 1093) (by decide +kernel)) rfl)
theorem d_Integer_bitCount_14 : decode kY_Integer_bitCount.2.1 14 = .ok (.iand, 1) := by decide +kernel
theorem d_Integer_bitCount_15 : decode kY_Integer_bitCount.2.1 15 = .ok (.iload_n 0, 1) := by decide +kernel
theorem d_Integer_bitCount_16 : decode kY_Integer_bitCount.2.1 16 = .ok (.iconst 2, 1) := by decide +kernel
theorem d_Integer_bitCount_17 : decode kY_Integer_bitCount.2.1 17 = .ok (.iushr, 1) := by decide +kernel
theorem d_Integer_bitCount_18 : decode kY_Integer_bitCount.2.1 18 = .ok (.ldc_w 266, 3) := by decide +kernel
theorem d_Integer_bitCount_21 : decode kY_Integer_bitCount.2.1 21 = .ok (.iand, 1) := by decide +kernel
theorem d_Integer_bitCount_22 : decode kY_Integer_bitCount.2.1 22 = .ok (.iadd, 1) := by decide +kernel
theorem d_Integer_bitCount_23 : decode kY_Integer_bitCount.2.1 23 = .ok (.istore_n 0, 1) := by decide +kernel
theorem d_Integer_bitCount_24 : decode kY_Integer_bitCount.2.1 24 = .ok (.iload_n 0, 1) := by decide +kernel
theorem d_Integer_bitCount_25 : decode kY_Integer_bitCount.2.1 25 = .ok (.iload_n 0, 1) := by decide +kernel
theorem d_Integer_bitCount_26 : decode kY_Integer_bitCount.2.1 26 = .ok (.iconst 4, 1) := by decide +kernel
theorem d_Integer_bitCount_27 : decode kY_Integer_bitCount.2.1 27 = .ok (.iushr, 1) := by decide +kernel
theorem d_Integer_bitCount_28 : decode kY_Integer_bitCount.2.1 28 = .ok (.iadd, 1) := by decide +kernel
theorem d_Integer_bitCount_29 : decode kY_Integer_bitCount.2.1 29 = .ok (.ldc_w 267, 3) := by decide +kernel
theorem k_Integer_267 : Cond.constant "java/lang/Integer" 267 252645135 ∈ mj_T := (mj_in1 (List.mem_of_getElem? (i := 1094) (by decide +kernel)) rfl)
theorem d_Integer_bitCount_32 : decode kY_Integer_bitCount.2.1 32 = .ok (.iand, 1) := by decide +kernel
theorem d_Integer_bitCount_33 : decode kY_Integer_bitCount.2.1 33 = .ok (.istore_n 0, 1) := by decide +kernel
theorem d_Integer_bitCount_34 : decode kY_Integer_bitCount.2.1 34 = .ok (.iload_n 0, 1) := by decide +kernel
theorem d_Integer_bitCount_35 : decode kY_Integer_bitCount.2.1 35 = .ok (.iload_n 0, 1) := by decide +kernel
theorem d_Integer_bitCount_36 : decode kY_Integer_bitCount.2.1 36 = .ok (.bipush 8, 2) := by decide +kernel
theorem d_Integer_bitCount_38 : decode kY_Integer_bitCount.2.1 38 = .ok (.iushr, 1) := by decide +kernel
theorem d_Integer_bitCount_39 : decode kY_Integer_bitCount.2.1 39 = .ok (.iadd, 1) := by decide +kernel
theorem d_Integer_bitCount_40 : decode kY_Integer_bitCount.2.1 40 = .ok (.istore_n 0, 1) := by decide +kernel
theorem d_Integer_bitCount_41 : decode kY_Integer_bitCount.2.1 41 = .ok (.iload_n 0, 1) := by decide +kernel
theorem d_Integer_bitCount_42 : decode kY_Integer_bitCount.2.1 42 = .ok (.iload_n 0, 1) := by decide +kernel
theorem d_Integer_bitCount_43 : decode kY_Integer_bitCount.2.1 43 = .ok (.bipush 16, 2) := by decide +kernel
theorem d_Integer_bitCount_45 : decode kY_Integer_bitCount.2.1 45 = .ok (.iushr, 1) := by decide +kernel
theorem d_Integer_bitCount_46 : decode kY_Integer_bitCount.2.1 46 = .ok (.iadd, 1) := by decide +kernel
theorem d_Integer_bitCount_47 : decode kY_Integer_bitCount.2.1 47 = .ok (.istore_n 0, 1) := by decide +kernel
theorem d_Integer_bitCount_48 : decode kY_Integer_bitCount.2.1 48 = .ok (.iload_n 0, 1) := by decide +kernel
theorem d_Integer_bitCount_49 : decode kY_Integer_bitCount.2.1 49 = .ok (.bipush 63, 2) := by decide +kernel
theorem d_Integer_bitCount_51 : decode kY_Integer_bitCount.2.1 51 = .ok (.iand, 1) := by decide +kernel
theorem d_Integer_bitCount_52 : decode kY_Integer_bitCount.2.1 52 = .ok (.ireturn, 1) := by decide +kernel
def w_Integer_bitCount : List Nat := []
theorem tc_Integer_bitCount {g : mj_G} {l : Launch} {d : Nat} {T0 : tm_H} {M0 : mj_M} {n0 x9 : Nat} {x1 : Int32} (I0 : tm_I tm_FT (tm_in w_Integer_bitCount) x9 T0 M0 n0 T0 M0 n0) : mj_Met g l kY_Integer_bitCount d [.int x1] M0 n0 0 0 (tm_Q tm_FT (tm_in w_Integer_bitCount) x9 T0 M0 n0 (fun r _ _ => ∃ v : Int32, r = some (.int v))) := by
  refine mj_enter (by decide) (Nat.le_of_ble_eq_true rfl) ?_
  refine mv_iload_n d_Integer_bitCount_0 rfl rfl ?_
  refine mv_iload_n d_Integer_bitCount_1 rfl rfl ?_
  refine mv_iconst (v := 1) d_Integer_bitCount_2 (by decide) ?_
  refine mv_iushr (v := (x1.toUInt32 >>> ((1 : Int32).toUInt32 &&& Int32.toUInt32 31)).toInt32) d_Integer_bitCount_3 rfl ?_
  refine mv_ldcw d_Integer_bitCount_4 k_Integer_265 ?_
  refine mv_iand d_Integer_bitCount_7 ?_
  refine mv_isub d_Integer_bitCount_8 ?_
  refine mv_istore_n (lv' := [(0, .int (x1 - (((x1.toUInt32 >>> ((1 : Int32).toUInt32 &&& Int32.toUInt32 31)).toInt32) &&& 1431655765)))]) d_Integer_bitCount_9 rfl (by decide) rfl ?_
  refine mv_iload_n d_Integer_bitCount_10 rfl rfl ?_
  refine mv_ldcw d_Integer_bitCount_11 k_Integer_266 ?_
  refine mv_iand d_Integer_bitCount_14 ?_
  refine mv_iload_n d_Integer_bitCount_15 rfl rfl ?_
  refine mv_iconst (v := 2) d_Integer_bitCount_16 (by decide) ?_
  refine mv_iushr (v := ((x1 - (((x1.toUInt32 >>> ((1 : Int32).toUInt32 &&& Int32.toUInt32 31)).toInt32) &&& 1431655765)).toUInt32 >>> ((2 : Int32).toUInt32 &&& Int32.toUInt32 31)).toInt32) d_Integer_bitCount_17 rfl ?_
  refine mv_ldcw d_Integer_bitCount_18 k_Integer_266 ?_
  refine mv_iand d_Integer_bitCount_21 ?_
  refine mv_iadd d_Integer_bitCount_22 ?_
  refine mv_istore_n (lv' := [(0, .int (((x1 - (((x1.toUInt32 >>> ((1 : Int32).toUInt32 &&& Int32.toUInt32 31)).toInt32) &&& 1431655765)) &&& 858993459) + ((((x1 - (((x1.toUInt32 >>> ((1 : Int32).toUInt32 &&& Int32.toUInt32 31)).toInt32) &&& 1431655765)).toUInt32 >>> ((2 : Int32).toUInt32 &&& Int32.toUInt32 31)).toInt32) &&& 858993459)))]) d_Integer_bitCount_23 rfl (by decide) rfl ?_
  refine mv_iload_n d_Integer_bitCount_24 rfl rfl ?_
  refine mv_iload_n d_Integer_bitCount_25 rfl rfl ?_
  refine mv_iconst (v := 4) d_Integer_bitCount_26 (by decide) ?_
  refine mv_iushr (v := ((((x1 - (((x1.toUInt32 >>> ((1 : Int32).toUInt32 &&& Int32.toUInt32 31)).toInt32) &&& 1431655765)) &&& 858993459) + ((((x1 - (((x1.toUInt32 >>> ((1 : Int32).toUInt32 &&& Int32.toUInt32 31)).toInt32) &&& 1431655765)).toUInt32 >>> ((2 : Int32).toUInt32 &&& Int32.toUInt32 31)).toInt32) &&& 858993459)).toUInt32 >>> ((4 : Int32).toUInt32 &&& Int32.toUInt32 31)).toInt32) d_Integer_bitCount_27 rfl ?_
  refine mv_iadd d_Integer_bitCount_28 ?_
  refine mv_ldcw d_Integer_bitCount_29 k_Integer_267 ?_
  refine mv_iand d_Integer_bitCount_32 ?_
  refine mv_istore_n (lv' := [(0, .int (((((x1 - (((x1.toUInt32 >>> ((1 : Int32).toUInt32 &&& Int32.toUInt32 31)).toInt32) &&& 1431655765)) &&& 858993459) + ((((x1 - (((x1.toUInt32 >>> ((1 : Int32).toUInt32 &&& Int32.toUInt32 31)).toInt32) &&& 1431655765)).toUInt32 >>> ((2 : Int32).toUInt32 &&& Int32.toUInt32 31)).toInt32) &&& 858993459)) + (((((x1 - (((x1.toUInt32 >>> ((1 : Int32).toUInt32 &&& Int32.toUInt32 31)).toInt32) &&& 1431655765)) &&& 858993459) + ((((x1 - (((x1.toUInt32 >>> ((1 : Int32).toUInt32 &&& Int32.toUInt32 31)).toInt32) &&& 1431655765)).toUInt32 >>> ((2 : Int32).toUInt32 &&& Int32.toUInt32 31)).toInt32) &&& 858993459)).toUInt32 >>> ((4 : Int32).toUInt32 &&& Int32.toUInt32 31)).toInt32)) &&& 252645135))]) d_Integer_bitCount_33 rfl (by decide) rfl ?_
  refine mv_iload_n d_Integer_bitCount_34 rfl rfl ?_
  refine mv_iload_n d_Integer_bitCount_35 rfl rfl ?_
  refine mv_bipush (v := 8) d_Integer_bitCount_36 (by decide) ?_
  refine mv_iushr (v := ((((((x1 - (((x1.toUInt32 >>> ((1 : Int32).toUInt32 &&& Int32.toUInt32 31)).toInt32) &&& 1431655765)) &&& 858993459) + ((((x1 - (((x1.toUInt32 >>> ((1 : Int32).toUInt32 &&& Int32.toUInt32 31)).toInt32) &&& 1431655765)).toUInt32 >>> ((2 : Int32).toUInt32 &&& Int32.toUInt32 31)).toInt32) &&& 858993459)) + (((((x1 - (((x1.toUInt32 >>> ((1 : Int32).toUInt32 &&& Int32.toUInt32 31)).toInt32) &&& 1431655765)) &&& 858993459) + ((((x1 - (((x1.toUInt32 >>> ((1 : Int32).toUInt32 &&& Int32.toUInt32 31)).toInt32) &&& 1431655765)).toUInt32 >>> ((2 : Int32).toUInt32 &&& Int32.toUInt32 31)).toInt32) &&& 858993459)).toUInt32 >>> ((4 : Int32).toUInt32 &&& Int32.toUInt32 31)).toInt32)) &&& 252645135).toUInt32 >>> ((8 : Int32).toUInt32 &&& Int32.toUInt32 31)).toInt32) d_Integer_bitCount_38 rfl ?_
  refine mv_iadd d_Integer_bitCount_39 ?_
  refine mv_istore_n (lv' := [(0, .int ((((((x1 - (((x1.toUInt32 >>> ((1 : Int32).toUInt32 &&& Int32.toUInt32 31)).toInt32) &&& 1431655765)) &&& 858993459) + ((((x1 - (((x1.toUInt32 >>> ((1 : Int32).toUInt32 &&& Int32.toUInt32 31)).toInt32) &&& 1431655765)).toUInt32 >>> ((2 : Int32).toUInt32 &&& Int32.toUInt32 31)).toInt32) &&& 858993459)) + (((((x1 - (((x1.toUInt32 >>> ((1 : Int32).toUInt32 &&& Int32.toUInt32 31)).toInt32) &&& 1431655765)) &&& 858993459) + ((((x1 - (((x1.toUInt32 >>> ((1 : Int32).toUInt32 &&& Int32.toUInt32 31)).toInt32) &&& 1431655765)).toUInt32 >>> ((2 : Int32).toUInt32 &&& Int32.toUInt32 31)).toInt32) &&& 858993459)).toUInt32 >>> ((4 : Int32).toUInt32 &&& Int32.toUInt32 31)).toInt32)) &&& 252645135) + (((((((x1 - (((x1.toUInt32 >>> ((1 : Int32).toUInt32 &&& Int32.toUInt32 31)).toInt32) &&& 1431655765)) &&& 858993459) + ((((x1 - (((x1.toUInt32 >>> ((1 : Int32).toUInt32 &&& Int32.toUInt32 31)).toInt32) &&& 1431655765)).toUInt32 >>> ((2 : Int32).toUInt32 &&& Int32.toUInt32 31)).toInt32) &&& 858993459)) + (((((x1 - (((x1.toUInt32 >>> ((1 : Int32).toUInt32 &&& Int32.toUInt32 31)).toInt32) &&& 1431655765)) &&& 858993459) + ((((x1 - (((x1.toUInt32 >>> ((1 : Int32).toUInt32 &&& Int32.toUInt32 31)).toInt32) &&& 1431655765)).toUInt32 >>> ((2 : Int32).toUInt32 &&& Int32.toUInt32 31)).toInt32) &&& 858993459)).toUInt32 >>> ((4 : Int32).toUInt32 &&& Int32.toUInt32 31)).toInt32)) &&& 252645135).toUInt32 >>> ((8 : Int32).toUInt32 &&& Int32.toUInt32 31)).toInt32)))]) d_Integer_bitCount_40 rfl (by decide) rfl ?_
  refine mv_iload_n d_Integer_bitCount_41 rfl rfl ?_
  refine mv_iload_n d_Integer_bitCount_42 rfl rfl ?_
  refine mv_bipush (v := 16) d_Integer_bitCount_43 (by decide) ?_
  refine mv_iushr (v := (((((((x1 - (((x1.toUInt32 >>> ((1 : Int32).toUInt32 &&& Int32.toUInt32 31)).toInt32) &&& 1431655765)) &&& 858993459) + ((((x1 - (((x1.toUInt32 >>> ((1 : Int32).toUInt32 &&& Int32.toUInt32 31)).toInt32) &&& 1431655765)).toUInt32 >>> ((2 : Int32).toUInt32 &&& Int32.toUInt32 31)).toInt32) &&& 858993459)) + (((((x1 - (((x1.toUInt32 >>> ((1 : Int32).toUInt32 &&& Int32.toUInt32 31)).toInt32) &&& 1431655765)) &&& 858993459) + ((((x1 - (((x1.toUInt32 >>> ((1 : Int32).toUInt32 &&& Int32.toUInt32 31)).toInt32) &&& 1431655765)).toUInt32 >>> ((2 : Int32).toUInt32 &&& Int32.toUInt32 31)).toInt32) &&& 858993459)).toUInt32 >>> ((4 : Int32).toUInt32 &&& Int32.toUInt32 31)).toInt32)) &&& 252645135) + (((((((x1 - (((x1.toUInt32 >>> ((1 : Int32).toUInt32 &&& Int32.toUInt32 31)).toInt32) &&& 1431655765)) &&& 858993459) + ((((x1 - (((x1.toUInt32 >>> ((1 : Int32).toUInt32 &&& Int32.toUInt32 31)).toInt32) &&& 1431655765)).toUInt32 >>> ((2 : Int32).toUInt32 &&& Int32.toUInt32 31)).toInt32) &&& 858993459)) + (((((x1 - (((x1.toUInt32 >>> ((1 : Int32).toUInt32 &&& Int32.toUInt32 31)).toInt32) &&& 1431655765)) &&& 858993459) + ((((x1 - (((x1.toUInt32 >>> ((1 : Int32).toUInt32 &&& Int32.toUInt32 31)).toInt32) &&& 1431655765)).toUInt32 >>> ((2 : Int32).toUInt32 &&& Int32.toUInt32 31)).toInt32) &&& 858993459)).toUInt32 >>> ((4 : Int32).toUInt32 &&& Int32.toUInt32 31)).toInt32)) &&& 252645135).toUInt32 >>> ((8 : Int32).toUInt32 &&& Int32.toUInt32 31)).toInt32)).toUInt32 >>> ((16 : Int32).toUInt32 &&& Int32.toUInt32 31)).toInt32) d_Integer_bitCount_45 rfl ?_
  refine mv_iadd d_Integer_bitCount_46 ?_
  refine mv_istore_n (lv' := [(0, .int (((((((x1 - (((x1.toUInt32 >>> ((1 : Int32).toUInt32 &&& Int32.toUInt32 31)).toInt32) &&& 1431655765)) &&& 858993459) + ((((x1 - (((x1.toUInt32 >>> ((1 : Int32).toUInt32 &&& Int32.toUInt32 31)).toInt32) &&& 1431655765)).toUInt32 >>> ((2 : Int32).toUInt32 &&& Int32.toUInt32 31)).toInt32) &&& 858993459)) + (((((x1 - (((x1.toUInt32 >>> ((1 : Int32).toUInt32 &&& Int32.toUInt32 31)).toInt32) &&& 1431655765)) &&& 858993459) + ((((x1 - (((x1.toUInt32 >>> ((1 : Int32).toUInt32 &&& Int32.toUInt32 31)).toInt32) &&& 1431655765)).toUInt32 >>> ((2 : Int32).toUInt32 &&& Int32.toUInt32 31)).toInt32) &&& 858993459)).toUInt32 >>> ((4 : Int32).toUInt32 &&& Int32.toUInt32 31)).toInt32)) &&& 252645135) + (((((((x1 - (((x1.toUInt32 >>> ((1 : Int32).toUInt32 &&& Int32.toUInt32 31)).toInt32) &&& 1431655765)) &&& 858993459) + ((((x1 - (((x1.toUInt32 >>> ((1 : Int32).toUInt32 &&& Int32.toUInt32 31)).toInt32) &&& 1431655765)).toUInt32 >>> ((2 : Int32).toUInt32 &&& Int32.toUInt32 31)).toInt32) &&& 858993459)) + (((((x1 - (((x1.toUInt32 >>> ((1 : Int32).toUInt32 &&& Int32.toUInt32 31)).toInt32) &&& 1431655765)) &&& 858993459) + ((((x1 - (((x1.toUInt32 >>> ((1 : Int32).toUInt32 &&& Int32.toUInt32 31)).toInt32) &&& 1431655765)).toUInt32 >>> ((2 : Int32).toUInt32 &&& Int32.toUInt32 31)).toInt32) &&& 858993459)).toUInt32 >>> ((4 : Int32).toUInt32 &&& Int32.toUInt32 31)).toInt32)) &&& 252645135).toUInt32 >>> ((8 : Int32).toUInt32 &&& Int32.toUInt32 31)).toInt32)) + ((((((((x1 - (((x1.toUInt32 >>> ((1 : Int32).toUInt32 &&& Int32.toUInt32 31)).toInt32) &&& 1431655765)) &&& 858993459) + ((((x1 - (((x1.toUInt32 >>> ((1 : Int32).toUInt32 &&& Int32.toUInt32 31)).toInt32) &&& 1431655765)).toUInt32 >>> ((2 : Int32).toUInt32 &&& Int32.toUInt32 31)).toInt32) &&& 858993459)) + (((((x1 - (((x1.toUInt32 >>> ((1 : Int32).toUInt32 &&& Int32.toUInt32 31)).toInt32) &&& 1431655765)) &&& 858993459) + ((((x1 - (((x1.toUInt32 >>> ((1 : Int32).toUInt32 &&& Int32.toUInt32 31)).toInt32) &&& 1431655765)).toUInt32 >>> ((2 : Int32).toUInt32 &&& Int32.toUInt32 31)).toInt32) &&& 858993459)).toUInt32 >>> ((4 : Int32).toUInt32 &&& Int32.toUInt32 31)).toInt32)) &&& 252645135) + (((((((x1 - (((x1.toUInt32 >>> ((1 : Int32).toUInt32 &&& Int32.toUInt32 31)).toInt32) &&& 1431655765)) &&& 858993459) + ((((x1 - (((x1.toUInt32 >>> ((1 : Int32).toUInt32 &&& Int32.toUInt32 31)).toInt32) &&& 1431655765)).toUInt32 >>> ((2 : Int32).toUInt32 &&& Int32.toUInt32 31)).toInt32) &&& 858993459)) + (((((x1 - (((x1.toUInt32 >>> ((1 : Int32).toUInt32 &&& Int32.toUInt32 31)).toInt32) &&& 1431655765)) &&& 858993459) + ((((x1 - (((x1.toUInt32 >>> ((1 : Int32).toUInt32 &&& Int32.toUInt32 31)).toInt32) &&& 1431655765)).toUInt32 >>> ((2 : Int32).toUInt32 &&& Int32.toUInt32 31)).toInt32) &&& 858993459)).toUInt32 >>> ((4 : Int32).toUInt32 &&& Int32.toUInt32 31)).toInt32)) &&& 252645135).toUInt32 >>> ((8 : Int32).toUInt32 &&& Int32.toUInt32 31)).toInt32)).toUInt32 >>> ((16 : Int32).toUInt32 &&& Int32.toUInt32 31)).toInt32)))]) d_Integer_bitCount_47 rfl (by decide) rfl ?_
  refine mv_iload_n d_Integer_bitCount_48 rfl rfl ?_
  refine mv_bipush (v := 63) d_Integer_bitCount_49 (by decide) ?_
  refine mv_iand d_Integer_bitCount_51 ?_
  exact mv_iret d_Integer_bitCount_52 rfl (by first | rfl | decide) ⟨_, I0, _, rfl⟩
theorem lS_TrustDesk_337 : mj_lS "TrustDesk" 337 kY_Integer_bitCount 1 := ⟨⟨(mj_in1 (List.mem_of_getElem? (i := 1089) (by decide +kernel)) rfl), (mj_in1 (List.mem_of_getElem? (i := 26) (by decide +kernel)) rfl), (mj_in1 (List.mem_of_getElem? (i := 1091) (by decide +kernel)) rfl), by decide, rfl, by decide⟩, (mj_in1 (List.mem_of_getElem? (i := 1090) (by decide +kernel)) rfl)⟩
theorem d_TrustDesk_canGather_4 : decode kY_TrustDesk_canGather.2.1 4 = .ok (.istore_n 2, 1) := by decide +kernel
theorem d_TrustDesk_canGather_5 : decode kY_TrustDesk_canGather.2.1 5 = .ok (.iload_n 2, 1) := by decide +kernel
theorem d_TrustDesk_canGather_6 : decode kY_TrustDesk_canGather.2.1 6 = .ok (.iconst 1, 1) := by decide +kernel
theorem d_TrustDesk_canGather_7 : decode kY_TrustDesk_canGather.2.1 7 = .ok (.if_icmp .lt 21, 3) := by decide +kernel
theorem d_TrustDesk_canGather_28 : decode kY_TrustDesk_canGather.2.1 28 = .ok (.iconst 0, 1) := by decide +kernel
theorem d_TrustDesk_canGather_29 : decode kY_TrustDesk_canGather.2.1 29 = .ok (.ireturn, 1) := by decide +kernel
theorem d_TrustDesk_canGather_10 : decode kY_TrustDesk_canGather.2.1 10 = .ok (.iload_n 2, 1) := by decide +kernel
theorem d_TrustDesk_canGather_11 : decode kY_TrustDesk_canGather.2.1 11 = .ok (.bipush 8, 2) := by decide +kernel
theorem d_TrustDesk_canGather_13 : decode kY_TrustDesk_canGather.2.1 13 = .ok (.if_icmp .gt 15, 3) := by decide +kernel
theorem d_TrustDesk_canGather_16 : decode kY_TrustDesk_canGather.2.1 16 = .ok (.iload_n 1, 1) := by decide +kernel
theorem d_TrustDesk_canGather_17 : decode kY_TrustDesk_canGather.2.1 17 = .ok (.aload_n 0, 1) := by decide +kernel
theorem d_TrustDesk_canGather_18 : decode kY_TrustDesk_canGather.2.1 18 = .ok (.getfield 53, 3) := by decide +kernel
theorem d_TrustDesk_canGather_21 : decode kY_TrustDesk_canGather.2.1 21 = .ok (.invokevirtual 97, 3) := by decide +kernel
theorem d_TrustDesk_canGather_24 : decode kY_TrustDesk_canGather.2.1 24 = .ok (.ishr, 1) := by decide +kernel
theorem d_TrustDesk_canGather_25 : decode kY_TrustDesk_canGather.2.1 25 = .ok (.ifCond .eq 5, 3) := by decide +kernel
theorem d_TrustDesk_canGather_30 : decode kY_TrustDesk_canGather.2.1 30 = .ok (.iconst 0, 1) := by decide +kernel
theorem d_TrustDesk_canGather_31 : decode kY_TrustDesk_canGather.2.1 31 = .ok (.istore_n 3, 1) := by decide +kernel
theorem d_TrustDesk_canGather_32 : decode kY_TrustDesk_canGather.2.1 32 = .ok (.iload_n 3, 1) := by decide +kernel
theorem d_TrustDesk_canGather_33 : decode kY_TrustDesk_canGather.2.1 33 = .ok (.aload_n 0, 1) := by decide +kernel
theorem d_TrustDesk_canGather_34 : decode kY_TrustDesk_canGather.2.1 34 = .ok (.getfield 53, 3) := by decide +kernel
theorem d_TrustDesk_canGather_37 : decode kY_TrustDesk_canGather.2.1 37 = .ok (.invokevirtual 97, 3) := by decide +kernel
theorem d_TrustDesk_canGather_40 : decode kY_TrustDesk_canGather.2.1 40 = .ok (.if_icmp .ge 36, 3) := by decide +kernel
theorem d_TrustDesk_canGather_76 : decode kY_TrustDesk_canGather.2.1 76 = .ok (.iconst 1, 1) := by decide +kernel
theorem d_TrustDesk_canGather_77 : decode kY_TrustDesk_canGather.2.1 77 = .ok (.ireturn, 1) := by decide +kernel
theorem d_TrustDesk_canGather_43 : decode kY_TrustDesk_canGather.2.1 43 = .ok (.iload_n 1, 1) := by decide +kernel
theorem d_TrustDesk_canGather_44 : decode kY_TrustDesk_canGather.2.1 44 = .ok (.iload_n 3, 1) := by decide +kernel
theorem d_TrustDesk_canGather_45 : decode kY_TrustDesk_canGather.2.1 45 = .ok (.ishr, 1) := by decide +kernel
theorem d_TrustDesk_canGather_46 : decode kY_TrustDesk_canGather.2.1 46 = .ok (.iconst 1, 1) := by decide +kernel
theorem d_TrustDesk_canGather_47 : decode kY_TrustDesk_canGather.2.1 47 = .ok (.iand, 1) := by decide +kernel
theorem d_TrustDesk_canGather_48 : decode kY_TrustDesk_canGather.2.1 48 = .ok (.ifCond .eq 22, 3) := by decide +kernel
theorem d_TrustDesk_canGather_70 : decode kY_TrustDesk_canGather.2.1 70 = .ok (.iinc 3 1, 3) := by decide +kernel
theorem d_TrustDesk_canGather_73 : decode kY_TrustDesk_canGather.2.1 73 = .ok (.goto (-41), 3) := by decide +kernel
theorem d_TrustDesk_canGather_51 : decode kY_TrustDesk_canGather.2.1 51 = .ok (.aload_n 0, 1) := by decide +kernel
theorem d_TrustDesk_canGather_52 : decode kY_TrustDesk_canGather.2.1 52 = .ok (.getfield 53, 3) := by decide +kernel
theorem d_TrustDesk_canGather_55 : decode kY_TrustDesk_canGather.2.1 55 = .ok (.iload_n 3, 1) := by decide +kernel
theorem d_TrustDesk_canGather_56 : decode kY_TrustDesk_canGather.2.1 56 = .ok (.invokevirtual 158, 3) := by decide +kernel
theorem d_TrustDesk_canGather_59 : decode kY_TrustDesk_canGather.2.1 59 = .ok (.checkcast 123, 3) := by decide +kernel
theorem d_TrustDesk_canGather_62 : decode kY_TrustDesk_canGather.2.1 62 = .ok (.invokevirtual 162, 3) := by decide +kernel
theorem d_TrustDesk_canGather_65 : decode kY_TrustDesk_canGather.2.1 65 = .ok (.ifCond .eq 5, 3) := by decide +kernel
theorem d_TrustDesk_canGather_68 : decode kY_TrustDesk_canGather.2.1 68 = .ok (.iconst 0, 1) := by decide +kernel
theorem d_TrustDesk_canGather_69 : decode kY_TrustDesk_canGather.2.1 69 = .ok (.ireturn, 1) := by decide +kernel
def w_TrustDesk_canGather : List Nat := []
theorem tc_TrustDesk_canGather {g : mj_G} {l : Launch} {d : Nat} {T0 : tm_H} {M0 : mj_M} {n0 x9 : Nat} {o0 : Nat} {x1 : Int32} (h_o0 : T0 o0 = some (0, 12, 0)) (I0 : tm_I tm_FT (tm_in w_TrustDesk_canGather) x9 T0 M0 n0 T0 M0 n0) : mj_Met g l kY_TrustDesk_canGather (d + 3) [.ref o0, .int x1] M0 n0 0 0 (tm_Q tm_FT (tm_in w_TrustDesk_canGather) x9 T0 M0 n0 (fun r _ _ => ∃ v : Int32, r = some (.int v) ∧ 0 ≤ v.toInt ∧ v.toInt ≤ 1)) := by
  refine mj_enter (by decide) (Nat.le_of_ble_eq_true rfl) ?_
  refine mv_iload_n d_TrustDesk_canGather_0 rfl rfl ?_
  refine mv_callS (kc' := 0) (ks' := 0) (As := [.int x1]) (st9 := [.int x1]) d_TrustDesk_canGather_1 lS_TrustDesk_337 (tc_Integer_bitCount (d := (d + 2)) (x9 := x9) (x1 := x1)  I0.start) rfl (Nat.le_of_ble_eq_true rfl) (Nat.le_of_ble_eq_true rfl) (Nat.le_of_ble_eq_true rfl) (hst := rfl) (fun b1r M2 n3 b1 => ?_)
  obtain ⟨T4, J5, v7, rfl⟩ := b1
  have I6 := I0.call J5 (tm_sub (by decide)) (Or.inl rfl)
  have t8 := J5.up h_o0
  refine mv_istore_n (lv' := [(2, .int v7), (0, .ref o0), (1, .int x1)]) d_TrustDesk_canGather_4 rfl (by decide) rfl ?_
  refine mv_iload_n d_TrustDesk_canGather_5 rfl rfl ?_
  refine mv_iconst (v := 1) d_TrustDesk_canGather_6 (by decide) ?_
  have := mz_hi v7
  refine mv_icmp_ltZ (tgt := 28) (a := v7.toInt) (b := 1) d_TrustDesk_canGather_7 (by decide) rfl (by decide) (fun b9 => ?_) (fun b9 => ?_)
  · refine mv_iconst (v := 0) d_TrustDesk_canGather_28 (by decide) ?_
    exact mv_iret d_TrustDesk_canGather_29 rfl (by decide) ⟨_, I6, _, rfl, by decide, by decide⟩
  · refine mv_iload_n d_TrustDesk_canGather_10 rfl rfl ?_
    refine mv_bipush (v := 8) d_TrustDesk_canGather_11 (by decide) ?_
    have := mz_hi v7
    refine mv_icmp_gtZ (tgt := 28) (a := v7.toInt) (b := 8) d_TrustDesk_canGather_13 (by decide) rfl (by decide) (fun b10 => ?_) (fun b10 => ?_)
    · refine mv_iconst (v := 0) d_TrustDesk_canGather_28 (by decide) ?_
      exact mv_iret d_TrustDesk_canGather_29 rfl (by decide) ⟨_, I6, _, rfl, by decide, by decide⟩
    · refine mv_iload_n d_TrustDesk_canGather_16 rfl rfl ?_
      refine mv_aload_n d_TrustDesk_canGather_17 rfl rfl ?_
      obtain ⟨a12, q11, t_a12⟩ := tm_atO I6 t8 (k := 6) rfl
      refine tr_getK q11 d_TrustDesk_canGather_18 f_TrustDesk_53_12 ?_
      obtain ⟨m14, n15, e16, N17, f18, h13⟩ := I6.1 _ _ t_a12
      have := h13.2.1
      have : n15.toInt ≤ 12 := h13.2.2.1
      refine mv_callV_s (kc' := 0) (ks' := 0) [] [.ref a12, .int x1] d_TrustDesk_canGather_21 lV_TrustDesk_97 h13.1 rfl (tc_L_size (d := (d + 2)) h13.1) rfl (Nat.le_of_ble_eq_true rfl) (Nat.le_of_ble_eq_true rfl) (Nat.le_of_ble_eq_true rfl) rfl ?_
      refine mv_ishr d_TrustDesk_canGather_24 ?_
      have := mz_hi (x1 >>> (n15 &&& 31))
      refine mv_if_eqZ (tgt := 30) (a := (x1 >>> (n15 &&& 31)).toInt) d_TrustDesk_canGather_25 (by decide) rfl (fun b19 => ?_) (fun b19 => ?_)
      · refine mv_iconst (v := 0) d_TrustDesk_canGather_30 (by decide) ?_
        refine mv_istore_n (lv' := [(3, .int 0), (2, .int v7), (0, .ref o0), (1, .int x1)]) d_TrustDesk_canGather_31 rfl (by decide) rfl ?_
        have L32_20 : ∀ (k : Nat) (i3_20 : Int32) (T_20 : tm_H) (M_20 : mj_M) (n_20 : Nat), tm_I tm_FT (tm_in w_TrustDesk_canGather) x9 T0 M0 n0 T_20 M_20 n_20 → T_20 o0 = some (0, 12, 0) → 0 ≤ i3_20.toInt → 2147483647 - i3_20.toInt < (k : Int) → mj_V g l kY_TrustDesk_canGather (d + 3) 32 [(3, .int i3_20), (2, .int v7), (0, .ref o0), (1, .int x1)] [] M_20 n_20 0 0 (tm_Q tm_FT (tm_in w_TrustDesk_canGather) x9 T0 M0 n0 (fun r _ _ => ∃ v : Int32, r = some (.int v) ∧ 0 ≤ v.toInt ∧ v.toInt ≤ 1)) := by
          intro k20
          induction k20 with
          | zero =>
            intro i3_20 T_20 M_20 n_20 I_20 h_q0_20 iv0_20 hk20
            have := mz_hi i3_20
            omega
          | succ k20 ih20 =>
            intro i3_20 T_20 M_20 n_20 I_20 h_q0_20 iv0_20 hk20
            refine mv_iload_n d_TrustDesk_canGather_32 rfl rfl ?_
            refine mv_aload_n d_TrustDesk_canGather_33 rfl rfl ?_
            obtain ⟨a22, q21, t_a22⟩ := tm_atO I_20 h_q0_20 (k := 6) rfl
            refine tr_getK q21 d_TrustDesk_canGather_34 f_TrustDesk_53_12 ?_
            obtain ⟨m24, n25, e26, N27, f28, h23⟩ := I_20.1 _ _ t_a22
            have := h23.2.1
            have : n25.toInt ≤ 12 := h23.2.2.1
            refine mv_callV_s (kc' := 0) (ks' := 0) [] [.ref a22, .int i3_20] d_TrustDesk_canGather_37 lV_TrustDesk_97 h23.1 rfl (tc_L_size (d := (d + 2)) h23.1) rfl (Nat.le_of_ble_eq_true rfl) (Nat.le_of_ble_eq_true rfl) (Nat.le_of_ble_eq_true rfl) rfl ?_
            have := mz_hi i3_20
            have := mz_hi n25
            refine mv_icmp_geZ (tgt := 76) (a := i3_20.toInt) (b := n25.toInt) d_TrustDesk_canGather_40 (by decide) rfl rfl (fun b29 => ?_) (fun b29 => ?_)
            · refine mv_iconst (v := 1) d_TrustDesk_canGather_76 (by decide) ?_
              exact mv_iret d_TrustDesk_canGather_77 rfl (by decide) ⟨_, I_20, _, rfl, by decide, by decide⟩
            · refine mv_iload_n d_TrustDesk_canGather_43 rfl rfl ?_
              refine mv_iload_n d_TrustDesk_canGather_44 rfl rfl ?_
              refine mv_ishr d_TrustDesk_canGather_45 ?_
              refine mv_iconst (v := 1) d_TrustDesk_canGather_46 (by decide) ?_
              refine mv_iand d_TrustDesk_canGather_47 ?_
              have := mz_hi ((x1 >>> (i3_20 &&& 31)) &&& 1)
              refine mv_if_eqZ (tgt := 70) (a := ((x1 >>> (i3_20 &&& 31)) &&& 1).toInt) d_TrustDesk_canGather_48 (by decide) rfl (fun b30 => ?_) (fun b30 => ?_)
              · refine mv_iinc (v := (i3_20 + 1)) (lv' := [(3, .int (i3_20 + 1)), (2, .int v7), (0, .ref o0), (1, .int x1)]) d_TrustDesk_canGather_70 rfl rfl (by decide) rfl ?_
                refine mv_goto (tgt := 32) d_TrustDesk_canGather_73 (by decide) ?_
                have b31 : (i3_20 + 1).toInt = i3_20.toInt + 1 := mz_addn 1 1 (by decide) (by have := mz_lo i3_20; omega) (by have := mz_hi i3_20; omega)
                exact ih20 (i3_20 + 1) T_20 M_20 n_20 I_20 h_q0_20 (by first | omega | decide) (by omega)
              · refine mv_aload_n d_TrustDesk_canGather_51 rfl rfl ?_
                refine tr_getK (k := 6) q21 d_TrustDesk_canGather_52 f_TrustDesk_53_12 ?_
                refine mv_iload_n d_TrustDesk_canGather_55 rfl rfl ?_
                obtain ⟨u32e, u32i, a33, u32f, u32t⟩ := tm_el (i := i3_20) h23 (by omega) (by omega)
                have t_a33 : T_20 a33 = some (0, 6, 0) := u32t
                refine mv_callV_s (kc' := 0) (ks' := 0) [.int i3_20] [.int i3_20, .ref a22] d_TrustDesk_canGather_56 lV_TrustDesk_158 h23.1 rfl (tc_L_get (d := d) h23.1 u32e (by omega) (by omega) u32i u32f) rfl (Nat.le_of_ble_eq_true rfl) (Nat.le_of_ble_eq_true rfl) (Nat.le_of_ble_eq_true rfl) rfl ?_
                obtain ⟨_, b34, -⟩ := I_20.1 _ _ t_a33
                refine mv_castS (T9 := kF_Fund) (N := 15) d_TrustDesk_canGather_59 (mj_in1 (List.mem_of_getElem? (i := 655) (by decide +kernel)) rfl) b34 rfl ?_
                obtain ⟨_, b41, -⟩ := I_20.1 _ _ t_a33
                refine mv_callV (kc' := 0) (ks' := 0) (As := []) (st9 := [.ref a33]) d_TrustDesk_canGather_62 lV_TrustDesk_162 b41 rfl (tc_Fund_isJoined (d := (d + 2)) (x9 := x9) (o0 := a33) t_a33 I_20.start) rfl (Nat.le_of_ble_eq_true rfl) (Nat.le_of_ble_eq_true rfl) (Nat.le_of_ble_eq_true rfl) (hst := rfl) (fun b35r M36 n37 b35 => ?_)
                obtain ⟨T38, J39, v42, rfl, b43, b44⟩ := b35
                have I40 := I_20.call J39 (tm_sub (by decide)) (Or.inl rfl)
                have t45 := J39.up h_q0_20
                have q46 := J39.keep h_q0_20 (by decide) q21
                have t47 := J39.up t_a22
                have := mz_hi v42
                refine mv_if_eqZ (tgt := 70) (a := v42.toInt) d_TrustDesk_canGather_65 (by decide) rfl (fun b48 => ?_) (fun b48 => ?_)
                · refine mv_iinc (v := (i3_20 + 1)) (lv' := [(3, .int (i3_20 + 1)), (2, .int v7), (0, .ref o0), (1, .int x1)]) d_TrustDesk_canGather_70 rfl rfl (by decide) rfl ?_
                  refine mv_goto (tgt := 32) d_TrustDesk_canGather_73 (by decide) ?_
                  have b49 : (i3_20 + 1).toInt = i3_20.toInt + 1 := mz_addn 1 1 (by decide) (by have := mz_lo i3_20; omega) (by have := mz_hi i3_20; omega)
                  exact ih20 (i3_20 + 1) T38 M36 n37 I40 t45 (by first | omega | decide) (by omega)
                · refine mv_iconst (v := 0) d_TrustDesk_canGather_68 (by decide) ?_
                  exact mv_iret d_TrustDesk_canGather_69 rfl (by decide) ⟨_, I40, _, rfl, by decide, by decide⟩
        exact L32_20 4294967296 0 T4 M2 n3 I6 t8 (by first | omega | decide) (by show (2147483647 : Int) - _ < _; decide)
      · refine mv_iconst (v := 0) d_TrustDesk_canGather_28 (by decide) ?_
        exact mv_iret d_TrustDesk_canGather_29 rfl (by decide) ⟨_, I6, _, rfl, by decide, by decide⟩
abbrev kY_TrustDesk_coin : mj_Y := (⟨"TrustDesk", "coin", "(I)J"⟩, prog_1_method_39_code, 3, (Option.some Jvm.ClassFile.FieldType.long))
theorem d_TrustDesk_coin_0 : decode kY_TrustDesk_coin.2.1 0 = .ok (.aload_n 0, 1) := by decide +kernel
theorem d_TrustDesk_coin_1 : decode kY_TrustDesk_coin.2.1 1 = .ok (.iload_n 1, 1) := by decide +kernel
theorem d_TrustDesk_coin_2 : decode kY_TrustDesk_coin.2.1 2 = .ok (.invokevirtual 257, 3) := by decide +kernel
theorem d_TrustDesk_coin_5 : decode kY_TrustDesk_coin.2.1 5 = .ok (.astore_n 2, 1) := by decide +kernel
theorem d_TrustDesk_coin_6 : decode kY_TrustDesk_coin.2.1 6 = .ok (.aload_n 2, 1) := by decide +kernel
theorem d_TrustDesk_coin_7 : decode kY_TrustDesk_coin.2.1 7 = .ok (.ifnonnull 9, 3) := by decide +kernel
theorem d_TrustDesk_coin_10 : decode kY_TrustDesk_coin.2.1 10 = .ok (.ldc2_w 463, 3) := by decide +kernel
theorem k_TrustDesk_463 : Cond.constantLong "TrustDesk" 463 (-1) ∈ mj_T := (mj_in1 (List.mem_of_getElem? (i := 1174) (by decide +kernel)) rfl)
theorem d_TrustDesk_coin_13 : decode kY_TrustDesk_coin.2.1 13 = .ok (.goto 7, 3) := by decide +kernel
theorem d_TrustDesk_coin_20 : decode kY_TrustDesk_coin.2.1 20 = .ok (.lreturn, 1) := by decide +kernel
theorem d_TrustDesk_coin_16 : decode kY_TrustDesk_coin.2.1 16 = .ok (.aload_n 2, 1) := by decide +kernel
theorem d_TrustDesk_coin_17 : decode kY_TrustDesk_coin.2.1 17 = .ok (.getfield 170, 3) := by decide +kernel
theorem f_TrustDesk_170_6 : mj_fl "TrustDesk" 170 6 3 := ⟨kR_Fund, kF_Fund, 15, "TrustDesk$Fund", rfl, kg_6, by decide, (mj_in1 (List.mem_of_getElem? (i := 672) (by decide +kernel)) rfl), Or.inl rfl⟩
def w_TrustDesk_coin : List Nat := []
theorem tc_TrustDesk_coin {g : mj_G} {l : Launch} {d : Nat} {T0 : tm_H} {M0 : mj_M} {n0 x9 : Nat} {o0 : Nat} {x1 : Int32} (h_o0 : T0 o0 = some (0, 12, 0)) (I0 : tm_I tm_FT (tm_in w_TrustDesk_coin) x9 T0 M0 n0 T0 M0 n0) : mj_Met g l kY_TrustDesk_coin (d + 4) [.ref o0, .int x1] M0 n0 0 0 (tm_Q tm_FT (tm_in w_TrustDesk_coin) x9 T0 M0 n0 (fun r _ _ => ∃ v : Int64, r = some (.long v))) := by
  refine mj_enter (by decide) (Nat.le_of_ble_eq_true rfl) ?_
  refine mv_aload_n d_TrustDesk_coin_0 rfl rfl ?_
  refine mv_iload_n d_TrustDesk_coin_1 rfl rfl ?_
  obtain ⟨_, b7, -⟩ := I0.1 _ _ h_o0
  refine mv_callV (kc' := 0) (ks' := 0) (As := [.int x1]) (st9 := [.int x1, .ref o0]) d_TrustDesk_coin_2 lV_TrustDesk_257 b7 rfl (tc_TrustDesk_fundAt (d := d) (x9 := x9) (o0 := o0) (x1 := x1) h_o0 I0.start) rfl (Nat.le_of_ble_eq_true rfl) (Nat.le_of_ble_eq_true rfl) (Nat.le_of_ble_eq_true rfl) (hst := rfl) (fun b1r M2 n3 b1 => ?_)
  obtain ⟨T4, J5, b9⟩ := b1
  have I6 := I0.call J5 (tm_sub (by decide)) (Or.inl rfl)
  have t10 := J5.up h_o0
  rcases b9 with rfl | ⟨a8, rfl, t_a8⟩
  · refine mv_astore_nN (lv' := [(2, .null), (0, .ref o0), (1, .int x1)]) d_TrustDesk_coin_5 rfl (by decide) rfl ?_
    refine mv_aload_nN d_TrustDesk_coin_6 rfl rfl ?_
    refine mv_ifnonnullN d_TrustDesk_coin_7 ?_
    refine mv_ldc2 d_TrustDesk_coin_10 k_TrustDesk_463 ?_
    refine mv_goto (tgt := 20) d_TrustDesk_coin_13 (by decide) ?_
    exact mv_lret d_TrustDesk_coin_20 rfl ⟨_, I6, _, rfl⟩
  · refine mv_astore_n (lv' := [(2, .ref a8), (0, .ref o0), (1, .int x1)]) d_TrustDesk_coin_5 rfl (by decide) rfl ?_
    refine mv_aload_n d_TrustDesk_coin_6 rfl rfl ?_
    refine mv_ifnonnull (tgt := 16) d_TrustDesk_coin_7 (by decide) ?_
    refine mv_aload_n d_TrustDesk_coin_16 rfl rfl ?_
    obtain ⟨v12, q11⟩ := tm_atL I6 t_a8 (k := 3) rfl
    refine tr_getK q11 d_TrustDesk_coin_17 f_TrustDesk_170_6 ?_
    exact mv_lret d_TrustDesk_coin_20 rfl ⟨_, I6, _, rfl⟩
abbrev kY_TrustDesk_count : mj_Y := (⟨"TrustDesk", "count", "(I)I"⟩, prog_1_method_57_code, 2, (Option.some Jvm.ClassFile.FieldType.int))
theorem d_TrustDesk_count_0 : decode kY_TrustDesk_count.2.1 0 = .ok (.iload_n 1, 1) := by decide +kernel
theorem d_TrustDesk_count_1 : decode kY_TrustDesk_count.2.1 1 = .ok (.tableswitch 144 0 11 #[63, 68, 76, 84, 92, 100, 108, 116, 121, 129, 134, 139], 63) := by decide +kernel
theorem d_TrustDesk_count_145 : decode kY_TrustDesk_count.2.1 145 = .ok (.iconst (-1), 1) := by decide +kernel
theorem d_TrustDesk_count_146 : decode kY_TrustDesk_count.2.1 146 = .ok (.ireturn, 1) := by decide +kernel
theorem d_TrustDesk_count_64 : decode kY_TrustDesk_count.2.1 64 = .ok (.aload_n 0, 1) := by decide +kernel
theorem d_TrustDesk_count_65 : decode kY_TrustDesk_count.2.1 65 = .ok (.getfield 73, 3) := by decide +kernel
theorem d_TrustDesk_count_68 : decode kY_TrustDesk_count.2.1 68 = .ok (.ireturn, 1) := by decide +kernel
theorem d_TrustDesk_count_69 : decode kY_TrustDesk_count.2.1 69 = .ok (.aload_n 0, 1) := by decide +kernel
theorem d_TrustDesk_count_70 : decode kY_TrustDesk_count.2.1 70 = .ok (.getfield 73, 3) := by decide +kernel
theorem d_TrustDesk_count_73 : decode kY_TrustDesk_count.2.1 73 = .ok (.invokestatic 366, 3) := by decide +kernel
abbrev kY_TrustDesk_yearOf : mj_Y := (⟨"TrustDesk", "yearOf", "(I)I"⟩, prog_1_method_70_code, 1, (Option.some Jvm.ClassFile.FieldType.int))
theorem d_TrustDesk_yearOf_0 : decode kY_TrustDesk_yearOf.2.1 0 = .ok (.iload_n 0, 1) := by decide +kernel
theorem d_TrustDesk_yearOf_1 : decode kY_TrustDesk_yearOf.2.1 1 = .ok (.sipush 360, 3) := by decide +kernel
theorem d_TrustDesk_yearOf_4 : decode kY_TrustDesk_yearOf.2.1 4 = .ok (.idiv, 1) := by decide +kernel
theorem d_TrustDesk_yearOf_5 : decode kY_TrustDesk_yearOf.2.1 5 = .ok (.ireturn, 1) := by decide +kernel
def w_TrustDesk_yearOf : List Nat := []
theorem tc_TrustDesk_yearOf {g : mj_G} {l : Launch} {d : Nat} {T0 : tm_H} {M0 : mj_M} {n0 x9 : Nat} {x1 : Int32} (I0 : tm_I tm_FT (tm_in w_TrustDesk_yearOf) x9 T0 M0 n0 T0 M0 n0) : mj_Met g l kY_TrustDesk_yearOf d [.int x1] M0 n0 0 0 (tm_Q tm_FT (tm_in w_TrustDesk_yearOf) x9 T0 M0 n0 (fun r _ _ => ∃ v : Int32, r = some (.int v))) := by
  refine mj_enter (by decide) (Nat.le_of_ble_eq_true rfl) ?_
  refine mv_iload_n d_TrustDesk_yearOf_0 rfl rfl ?_
  refine mv_sipush (v := 360) d_TrustDesk_yearOf_1 (by decide) ?_
  refine mv_idiv d_TrustDesk_yearOf_4 (by decide) ?_
  exact mv_iret d_TrustDesk_yearOf_5 rfl (by first | rfl | decide) ⟨_, I0, _, rfl⟩
theorem lS_TrustDesk_366 : mj_lS "TrustDesk" 366 kY_TrustDesk_yearOf 1 := ⟨⟨(mj_in1 (List.mem_of_getElem? (i := 1085) (by decide +kernel)) rfl), (mj_in1 (List.mem_of_getElem? (i := 1) (by decide +kernel)) rfl), (mj_in1 (List.mem_of_getElem? (i := 1087) (by decide +kernel)) rfl), by decide, rfl, by decide⟩, (mj_in1 (List.mem_of_getElem? (i := 1086) (by decide +kernel)) rfl)⟩
theorem d_TrustDesk_count_76 : decode kY_TrustDesk_count.2.1 76 = .ok (.ireturn, 1) := by decide +kernel
theorem d_TrustDesk_count_77 : decode kY_TrustDesk_count.2.1 77 = .ok (.aload_n 0, 1) := by decide +kernel
theorem d_TrustDesk_count_78 : decode kY_TrustDesk_count.2.1 78 = .ok (.getfield 10, 3) := by decide +kernel
theorem f_TrustDesk_10_12 : mj_fl "TrustDesk" 10 12 0 := ⟨kR_TrustDesk, kF_TrustDesk, 13, "TrustDesk", rfl, kg_12, by decide, (mj_in1 (List.mem_of_getElem? (i := 267) (by decide +kernel)) rfl), Or.inl rfl⟩
theorem d_TrustDesk_count_81 : decode kY_TrustDesk_count.2.1 81 = .ok (.getfield 515, 3) := by decide +kernel
theorem f_TrustDesk_515_5 : mj_fl "TrustDesk" 515 5 4 := ⟨kR_Facts, kF_Facts, 5, "TrustDesk$Facts", rfl, kg_5, by decide, (mj_in1 (List.mem_of_getElem? (i := 50) (by decide +kernel)) rfl), Or.inl rfl⟩
theorem d_TrustDesk_count_84 : decode kY_TrustDesk_count.2.1 84 = .ok (.ireturn, 1) := by decide +kernel
theorem d_TrustDesk_count_85 : decode kY_TrustDesk_count.2.1 85 = .ok (.aload_n 0, 1) := by decide +kernel
theorem d_TrustDesk_count_86 : decode kY_TrustDesk_count.2.1 86 = .ok (.getfield 49, 3) := by decide +kernel
theorem d_TrustDesk_count_89 : decode kY_TrustDesk_count.2.1 89 = .ok (.invokevirtual 97, 3) := by decide +kernel
theorem d_TrustDesk_count_92 : decode kY_TrustDesk_count.2.1 92 = .ok (.ireturn, 1) := by decide +kernel
theorem d_TrustDesk_count_93 : decode kY_TrustDesk_count.2.1 93 = .ok (.aload_n 0, 1) := by decide +kernel
theorem d_TrustDesk_count_94 : decode kY_TrustDesk_count.2.1 94 = .ok (.getfield 53, 3) := by decide +kernel
theorem d_TrustDesk_count_97 : decode kY_TrustDesk_count.2.1 97 = .ok (.invokevirtual 97, 3) := by decide +kernel
theorem d_TrustDesk_count_100 : decode kY_TrustDesk_count.2.1 100 = .ok (.ireturn, 1) := by decide +kernel
theorem d_TrustDesk_count_101 : decode kY_TrustDesk_count.2.1 101 = .ok (.aload_n 0, 1) := by decide +kernel
theorem d_TrustDesk_count_102 : decode kY_TrustDesk_count.2.1 102 = .ok (.getfield 56, 3) := by decide +kernel
theorem f_TrustDesk_56_12 : mj_fl "TrustDesk" 56 12 7 := ⟨kR_TrustDesk, kF_TrustDesk, 13, "TrustDesk", rfl, kg_12, by decide, (mj_in1 (List.mem_of_getElem? (i := 274) (by decide +kernel)) rfl), Or.inl rfl⟩
theorem d_TrustDesk_count_105 : decode kY_TrustDesk_count.2.1 105 = .ok (.invokevirtual 97, 3) := by decide +kernel
theorem d_TrustDesk_count_108 : decode kY_TrustDesk_count.2.1 108 = .ok (.ireturn, 1) := by decide +kernel
theorem d_TrustDesk_count_109 : decode kY_TrustDesk_count.2.1 109 = .ok (.aload_n 0, 1) := by decide +kernel
theorem d_TrustDesk_count_110 : decode kY_TrustDesk_count.2.1 110 = .ok (.getfield 59, 3) := by decide +kernel
theorem f_TrustDesk_59_12 : mj_fl "TrustDesk" 59 12 8 := ⟨kR_TrustDesk, kF_TrustDesk, 13, "TrustDesk", rfl, kg_12, by decide, (mj_in1 (List.mem_of_getElem? (i := 275) (by decide +kernel)) rfl), Or.inl rfl⟩
theorem d_TrustDesk_count_113 : decode kY_TrustDesk_count.2.1 113 = .ok (.invokevirtual 97, 3) := by decide +kernel
theorem d_TrustDesk_count_116 : decode kY_TrustDesk_count.2.1 116 = .ok (.ireturn, 1) := by decide +kernel
theorem d_TrustDesk_count_117 : decode kY_TrustDesk_count.2.1 117 = .ok (.aload_n 0, 1) := by decide +kernel
theorem d_TrustDesk_count_118 : decode kY_TrustDesk_count.2.1 118 = .ok (.getfield 254, 3) := by decide +kernel
theorem f_TrustDesk_254_12 : mj_fl "TrustDesk" 254 12 10 := ⟨kR_TrustDesk, kF_TrustDesk, 13, "TrustDesk", rfl, kg_12, by decide, (mj_in1 (List.mem_of_getElem? (i := 277) (by decide +kernel)) rfl), Or.inl rfl⟩
theorem d_TrustDesk_count_121 : decode kY_TrustDesk_count.2.1 121 = .ok (.ireturn, 1) := by decide +kernel
theorem d_TrustDesk_count_122 : decode kY_TrustDesk_count.2.1 122 = .ok (.aload_n 0, 1) := by decide +kernel
theorem d_TrustDesk_count_123 : decode kY_TrustDesk_count.2.1 123 = .ok (.getfield 19, 3) := by decide +kernel
theorem f_TrustDesk_19_12 : mj_fl "TrustDesk" 19 12 1 := ⟨kR_TrustDesk, kF_TrustDesk, 13, "TrustDesk", rfl, kg_12, by decide, (mj_in1 (List.mem_of_getElem? (i := 268) (by decide +kernel)) rfl), Or.inl rfl⟩
theorem d_TrustDesk_count_126 : decode kY_TrustDesk_count.2.1 126 = .ok (.getfield 88, 3) := by decide +kernel
theorem f_TrustDesk_88_9 : mj_fl "TrustDesk" 88 9 0 := ⟨kR_Reader, kF_Reader, 19, "TrustDesk$Reader", rfl, kg_9, by decide, (mj_in1 (List.mem_of_getElem? (i := 70) (by decide +kernel)) rfl), Or.inl rfl⟩
theorem d_TrustDesk_count_129 : decode kY_TrustDesk_count.2.1 129 = .ok (.ireturn, 1) := by decide +kernel
theorem d_TrustDesk_count_130 : decode kY_TrustDesk_count.2.1 130 = .ok (.aload_n 0, 1) := by decide +kernel
theorem d_TrustDesk_count_131 : decode kY_TrustDesk_count.2.1 131 = .ok (.getfield 509, 3) := by decide +kernel
theorem d_TrustDesk_count_134 : decode kY_TrustDesk_count.2.1 134 = .ok (.ireturn, 1) := by decide +kernel
theorem d_TrustDesk_count_135 : decode kY_TrustDesk_count.2.1 135 = .ok (.aload_n 0, 1) := by decide +kernel
theorem d_TrustDesk_count_136 : decode kY_TrustDesk_count.2.1 136 = .ok (.invokevirtual 518, 3) := by decide +kernel
abbrev kY_TrustDesk_schemesMade : mj_Y := (⟨"TrustDesk", "schemesMade", "()I"⟩, prog_1_method_58_code, 3, (Option.some Jvm.ClassFile.FieldType.int))
theorem d_TrustDesk_schemesMade_0 : decode kY_TrustDesk_schemesMade.2.1 0 = .ok (.iconst 0, 1) := by decide +kernel
theorem d_TrustDesk_schemesMade_1 : decode kY_TrustDesk_schemesMade.2.1 1 = .ok (.istore_n 1, 1) := by decide +kernel
theorem d_TrustDesk_schemesMade_2 : decode kY_TrustDesk_schemesMade.2.1 2 = .ok (.iconst 0, 1) := by decide +kernel
theorem d_TrustDesk_schemesMade_3 : decode kY_TrustDesk_schemesMade.2.1 3 = .ok (.istore_n 2, 1) := by decide +kernel
theorem d_TrustDesk_schemesMade_4 : decode kY_TrustDesk_schemesMade.2.1 4 = .ok (.iload_n 2, 1) := by decide +kernel
theorem d_TrustDesk_schemesMade_5 : decode kY_TrustDesk_schemesMade.2.1 5 = .ok (.aload_n 0, 1) := by decide +kernel
theorem d_TrustDesk_schemesMade_6 : decode kY_TrustDesk_schemesMade.2.1 6 = .ok (.getfield 59, 3) := by decide +kernel
theorem d_TrustDesk_schemesMade_9 : decode kY_TrustDesk_schemesMade.2.1 9 = .ok (.invokevirtual 97, 3) := by decide +kernel
theorem d_TrustDesk_schemesMade_12 : decode kY_TrustDesk_schemesMade.2.1 12 = .ok (.if_icmp .ge 30, 3) := by decide +kernel
theorem d_TrustDesk_schemesMade_42 : decode kY_TrustDesk_schemesMade.2.1 42 = .ok (.iload_n 1, 1) := by decide +kernel
theorem d_TrustDesk_schemesMade_43 : decode kY_TrustDesk_schemesMade.2.1 43 = .ok (.ireturn, 1) := by decide +kernel
theorem d_TrustDesk_schemesMade_15 : decode kY_TrustDesk_schemesMade.2.1 15 = .ok (.aload_n 0, 1) := by decide +kernel
theorem d_TrustDesk_schemesMade_16 : decode kY_TrustDesk_schemesMade.2.1 16 = .ok (.getfield 59, 3) := by decide +kernel
theorem d_TrustDesk_schemesMade_19 : decode kY_TrustDesk_schemesMade.2.1 19 = .ok (.iload_n 2, 1) := by decide +kernel
theorem d_TrustDesk_schemesMade_20 : decode kY_TrustDesk_schemesMade.2.1 20 = .ok (.invokevirtual 158, 3) := by decide +kernel
theorem d_TrustDesk_schemesMade_23 : decode kY_TrustDesk_schemesMade.2.1 23 = .ok (.checkcast 271, 3) := by decide +kernel
theorem d_TrustDesk_schemesMade_26 : decode kY_TrustDesk_schemesMade.2.1 26 = .ok (.getfield 284, 3) := by decide +kernel
theorem f_TrustDesk_284_11 : mj_fl "TrustDesk" 284 11 5 := ⟨kR_Scheme, kF_Scheme, 12, "TrustDesk$Scheme", rfl, kg_11, by decide, (mj_in1 (List.mem_of_getElem? (i := 978) (by decide +kernel)) rfl), Or.inl rfl⟩
theorem d_TrustDesk_schemesMade_29 : decode kY_TrustDesk_schemesMade.2.1 29 = .ok (.iconst 1, 1) := by decide +kernel
theorem d_TrustDesk_schemesMade_30 : decode kY_TrustDesk_schemesMade.2.1 30 = .ok (.if_icmp .ne 6, 3) := by decide +kernel
theorem d_TrustDesk_schemesMade_36 : decode kY_TrustDesk_schemesMade.2.1 36 = .ok (.iinc 2 1, 3) := by decide +kernel
theorem d_TrustDesk_schemesMade_39 : decode kY_TrustDesk_schemesMade.2.1 39 = .ok (.goto (-35), 3) := by decide +kernel
theorem d_TrustDesk_schemesMade_33 : decode kY_TrustDesk_schemesMade.2.1 33 = .ok (.iinc 1 1, 3) := by decide +kernel
def w_TrustDesk_schemesMade : List Nat := []
theorem tc_TrustDesk_schemesMade {g : mj_G} {l : Launch} {d : Nat} {T0 : tm_H} {M0 : mj_M} {n0 x9 : Nat} {o0 : Nat} (h_o0 : T0 o0 = some (0, 12, 0)) (I0 : tm_I tm_FT (tm_in w_TrustDesk_schemesMade) x9 T0 M0 n0 T0 M0 n0) : mj_Met g l kY_TrustDesk_schemesMade (d + 3) [.ref o0] M0 n0 0 0 (tm_Q tm_FT (tm_in w_TrustDesk_schemesMade) x9 T0 M0 n0 (fun r _ _ => ∃ v : Int32, r = some (.int v))) := by
  refine mj_enter (by decide) (Nat.le_of_ble_eq_true rfl) ?_
  refine mv_iconst (v := 0) d_TrustDesk_schemesMade_0 (by decide) ?_
  refine mv_istore_n (lv' := [(1, .int 0), (0, .ref o0)]) d_TrustDesk_schemesMade_1 rfl (by decide) rfl ?_
  refine mv_iconst (v := 0) d_TrustDesk_schemesMade_2 (by decide) ?_
  refine mv_istore_n (lv' := [(2, .int 0), (1, .int 0), (0, .ref o0)]) d_TrustDesk_schemesMade_3 rfl (by decide) rfl ?_
  have L4_1 : ∀ (k : Nat) (i2_1 : Int32) (i1_1 : Int32) (T_1 : tm_H) (M_1 : mj_M) (n_1 : Nat), tm_I tm_FT (tm_in w_TrustDesk_schemesMade) x9 T0 M0 n0 T_1 M_1 n_1 → T_1 o0 = some (0, 12, 0) → 0 ≤ i2_1.toInt → 2147483647 - i2_1.toInt < (k : Int) → mj_V g l kY_TrustDesk_schemesMade (d + 3) 4 [(2, .int i2_1), (1, .int i1_1), (0, .ref o0)] [] M_1 n_1 0 0 (tm_Q tm_FT (tm_in w_TrustDesk_schemesMade) x9 T0 M0 n0 (fun r _ _ => ∃ v : Int32, r = some (.int v))) := by
    intro k1
    induction k1 with
    | zero =>
      intro i2_1 i1_1 T_1 M_1 n_1 I_1 h_q0_1 iv0_1 hk1
      have := mz_hi i2_1
      omega
    | succ k1 ih1 =>
      intro i2_1 i1_1 T_1 M_1 n_1 I_1 h_q0_1 iv0_1 hk1
      refine mv_iload_n d_TrustDesk_schemesMade_4 rfl rfl ?_
      refine mv_aload_n d_TrustDesk_schemesMade_5 rfl rfl ?_
      obtain ⟨a3, q2, t_a3⟩ := tm_atO I_1 h_q0_1 (k := 8) rfl
      refine tr_getK q2 d_TrustDesk_schemesMade_6 f_TrustDesk_59_12 ?_
      obtain ⟨m5, n6, e7, N8, f9, h4⟩ := I_1.1 _ _ t_a3
      have := h4.2.1
      have : n6.toInt ≤ 40 := h4.2.2.1
      refine mv_callV_s (kc' := 0) (ks' := 0) [] [.ref a3, .int i2_1] d_TrustDesk_schemesMade_9 lV_TrustDesk_97 h4.1 rfl (tc_L_size (d := (d + 2)) h4.1) rfl (Nat.le_of_ble_eq_true rfl) (Nat.le_of_ble_eq_true rfl) (Nat.le_of_ble_eq_true rfl) rfl ?_
      have := mz_hi i2_1
      have := mz_hi n6
      refine mv_icmp_geZ (tgt := 42) (a := i2_1.toInt) (b := n6.toInt) d_TrustDesk_schemesMade_12 (by decide) rfl rfl (fun b10 => ?_) (fun b10 => ?_)
      · refine mv_iload_n d_TrustDesk_schemesMade_42 rfl rfl ?_
        exact mv_iret d_TrustDesk_schemesMade_43 rfl (by first | rfl | decide) ⟨_, I_1, _, rfl⟩
      · refine mv_aload_n d_TrustDesk_schemesMade_15 rfl rfl ?_
        refine tr_getK (k := 8) q2 d_TrustDesk_schemesMade_16 f_TrustDesk_59_12 ?_
        refine mv_iload_n d_TrustDesk_schemesMade_19 rfl rfl ?_
        obtain ⟨u11e, u11i, a12, u11f, u11t⟩ := tm_el (i := i2_1) h4 (by omega) (by omega)
        have t_a12 : T_1 a12 = some (0, 11, 0) := u11t
        refine mv_callV_s (kc' := 0) (ks' := 0) [.int i2_1] [.int i2_1, .ref a3] d_TrustDesk_schemesMade_20 lV_TrustDesk_158 h4.1 rfl (tc_L_get (d := d) h4.1 u11e (by omega) (by omega) u11i u11f) rfl (Nat.le_of_ble_eq_true rfl) (Nat.le_of_ble_eq_true rfl) (Nat.le_of_ble_eq_true rfl) rfl ?_
        obtain ⟨_, b13, -⟩ := I_1.1 _ _ t_a12
        refine mv_castS (T9 := kF_Scheme) (N := 12) d_TrustDesk_schemesMade_23 (mj_in1 (List.mem_of_getElem? (i := 961) (by decide +kernel)) rfl) b13 rfl ?_
        obtain ⟨v15, q14⟩ := tm_atI I_1 t_a12 (k := 5) rfl
        refine tr_getK q14 d_TrustDesk_schemesMade_26 f_TrustDesk_284_11 ?_
        refine mv_iconst (v := 1) d_TrustDesk_schemesMade_29 (by decide) ?_
        have := mz_hi v15
        refine mv_icmp_neZ (tgt := 36) (a := v15.toInt) (b := 1) d_TrustDesk_schemesMade_30 (by decide) rfl (by decide) (fun b16 => ?_) (fun b16 => ?_)
        · refine mv_iinc (v := (i2_1 + 1)) (lv' := [(2, .int (i2_1 + 1)), (1, .int i1_1), (0, .ref o0)]) d_TrustDesk_schemesMade_36 rfl rfl (by decide) rfl ?_
          refine mv_goto (tgt := 4) d_TrustDesk_schemesMade_39 (by decide) ?_
          have b17 : (i2_1 + 1).toInt = i2_1.toInt + 1 := mz_addn 1 1 (by decide) (by have := mz_lo i2_1; omega) (by have := mz_hi i2_1; omega)
          exact ih1 (i2_1 + 1) i1_1 T_1 M_1 n_1 I_1 h_q0_1 (by first | omega | decide) (by omega)
        · refine mv_iinc (v := (i1_1 + 1)) (lv' := [(1, .int (i1_1 + 1)), (2, .int i2_1), (0, .ref o0)]) d_TrustDesk_schemesMade_33 rfl rfl (by decide) rfl ?_
          refine mv_iinc (v := (i2_1 + 1)) (lv' := [(2, .int (i2_1 + 1)), (1, .int (i1_1 + 1)), (0, .ref o0)]) d_TrustDesk_schemesMade_36 rfl rfl (by decide) rfl ?_
          refine mv_goto (tgt := 4) d_TrustDesk_schemesMade_39 (by decide) ?_
          have b18 : (i2_1 + 1).toInt = i2_1.toInt + 1 := mz_addn 1 1 (by decide) (by have := mz_lo i2_1; omega) (by have := mz_hi i2_1; omega)
          exact ih1 (i2_1 + 1) (i1_1 + 1) T_1 M_1 n_1 I_1 h_q0_1 (by first | omega | decide) (by omega)
  exact L4_1 4294967296 0 0 T0 M0 n0 I0 h_o0 (by first | omega | decide) (by show (2147483647 : Int) - _ < _; decide)
theorem lV_TrustDesk_518 : mj_lV "TrustDesk" 518 kY_TrustDesk_schemesMade 0 := ⟨⟨(mj_in1 (List.mem_of_getElem? (i := 1298) (by decide +kernel)) rfl), (mj_in1 (List.mem_of_getElem? (i := 1) (by decide +kernel)) rfl), (mj_in1 (List.mem_of_getElem? (i := 1301) (by decide +kernel)) rfl), by decide, rfl, by decide⟩, (mj_in1 (List.mem_of_getElem? (i := 1300) (by decide +kernel)) rfl), (mj_in (List.mem_append_left _ (List.mem_of_getElem? (i := 75) (by decide +kernel))) rfl)⟩
theorem d_TrustDesk_count_139 : decode kY_TrustDesk_count.2.1 139 = .ok (.ireturn, 1) := by decide +kernel
theorem d_TrustDesk_count_140 : decode kY_TrustDesk_count.2.1 140 = .ok (.aload_n 0, 1) := by decide +kernel
theorem d_TrustDesk_count_141 : decode kY_TrustDesk_count.2.1 141 = .ok (.invokevirtual 521, 3) := by decide +kernel
abbrev kY_TrustDesk_fundsNotJoined : mj_Y := (⟨"TrustDesk", "fundsNotJoined", "()I"⟩, prog_1_method_59_code, 3, (Option.some Jvm.ClassFile.FieldType.int))
theorem d_TrustDesk_fundsNotJoined_0 : decode kY_TrustDesk_fundsNotJoined.2.1 0 = .ok (.iconst 0, 1) := by decide +kernel
theorem d_TrustDesk_fundsNotJoined_1 : decode kY_TrustDesk_fundsNotJoined.2.1 1 = .ok (.istore_n 1, 1) := by decide +kernel
theorem d_TrustDesk_fundsNotJoined_2 : decode kY_TrustDesk_fundsNotJoined.2.1 2 = .ok (.iconst 0, 1) := by decide +kernel
theorem d_TrustDesk_fundsNotJoined_3 : decode kY_TrustDesk_fundsNotJoined.2.1 3 = .ok (.istore_n 2, 1) := by decide +kernel
theorem d_TrustDesk_fundsNotJoined_4 : decode kY_TrustDesk_fundsNotJoined.2.1 4 = .ok (.iload_n 2, 1) := by decide +kernel
theorem d_TrustDesk_fundsNotJoined_5 : decode kY_TrustDesk_fundsNotJoined.2.1 5 = .ok (.aload_n 0, 1) := by decide +kernel
theorem d_TrustDesk_fundsNotJoined_6 : decode kY_TrustDesk_fundsNotJoined.2.1 6 = .ok (.getfield 53, 3) := by decide +kernel
theorem d_TrustDesk_fundsNotJoined_9 : decode kY_TrustDesk_fundsNotJoined.2.1 9 = .ok (.invokevirtual 97, 3) := by decide +kernel
theorem d_TrustDesk_fundsNotJoined_12 : decode kY_TrustDesk_fundsNotJoined.2.1 12 = .ok (.if_icmp .ge 29, 3) := by decide +kernel
theorem d_TrustDesk_fundsNotJoined_41 : decode kY_TrustDesk_fundsNotJoined.2.1 41 = .ok (.iload_n 1, 1) := by decide +kernel
theorem d_TrustDesk_fundsNotJoined_42 : decode kY_TrustDesk_fundsNotJoined.2.1 42 = .ok (.ireturn, 1) := by decide +kernel
theorem d_TrustDesk_fundsNotJoined_15 : decode kY_TrustDesk_fundsNotJoined.2.1 15 = .ok (.aload_n 0, 1) := by decide +kernel
theorem d_TrustDesk_fundsNotJoined_16 : decode kY_TrustDesk_fundsNotJoined.2.1 16 = .ok (.getfield 53, 3) := by decide +kernel
theorem d_TrustDesk_fundsNotJoined_19 : decode kY_TrustDesk_fundsNotJoined.2.1 19 = .ok (.iload_n 2, 1) := by decide +kernel
theorem d_TrustDesk_fundsNotJoined_20 : decode kY_TrustDesk_fundsNotJoined.2.1 20 = .ok (.invokevirtual 158, 3) := by decide +kernel
theorem d_TrustDesk_fundsNotJoined_23 : decode kY_TrustDesk_fundsNotJoined.2.1 23 = .ok (.checkcast 123, 3) := by decide +kernel
theorem d_TrustDesk_fundsNotJoined_26 : decode kY_TrustDesk_fundsNotJoined.2.1 26 = .ok (.invokevirtual 162, 3) := by decide +kernel
theorem d_TrustDesk_fundsNotJoined_29 : decode kY_TrustDesk_fundsNotJoined.2.1 29 = .ok (.ifCond .ne 6, 3) := by decide +kernel
theorem d_TrustDesk_fundsNotJoined_35 : decode kY_TrustDesk_fundsNotJoined.2.1 35 = .ok (.iinc 2 1, 3) := by decide +kernel
theorem d_TrustDesk_fundsNotJoined_38 : decode kY_TrustDesk_fundsNotJoined.2.1 38 = .ok (.goto (-34), 3) := by decide +kernel
theorem d_TrustDesk_fundsNotJoined_32 : decode kY_TrustDesk_fundsNotJoined.2.1 32 = .ok (.iinc 1 1, 3) := by decide +kernel
def w_TrustDesk_fundsNotJoined : List Nat := []
theorem tc_TrustDesk_fundsNotJoined {g : mj_G} {l : Launch} {d : Nat} {T0 : tm_H} {M0 : mj_M} {n0 x9 : Nat} {o0 : Nat} (h_o0 : T0 o0 = some (0, 12, 0)) (I0 : tm_I tm_FT (tm_in w_TrustDesk_fundsNotJoined) x9 T0 M0 n0 T0 M0 n0) : mj_Met g l kY_TrustDesk_fundsNotJoined (d + 3) [.ref o0] M0 n0 0 0 (tm_Q tm_FT (tm_in w_TrustDesk_fundsNotJoined) x9 T0 M0 n0 (fun r _ _ => ∃ v : Int32, r = some (.int v))) := by
  refine mj_enter (by decide) (Nat.le_of_ble_eq_true rfl) ?_
  refine mv_iconst (v := 0) d_TrustDesk_fundsNotJoined_0 (by decide) ?_
  refine mv_istore_n (lv' := [(1, .int 0), (0, .ref o0)]) d_TrustDesk_fundsNotJoined_1 rfl (by decide) rfl ?_
  refine mv_iconst (v := 0) d_TrustDesk_fundsNotJoined_2 (by decide) ?_
  refine mv_istore_n (lv' := [(2, .int 0), (1, .int 0), (0, .ref o0)]) d_TrustDesk_fundsNotJoined_3 rfl (by decide) rfl ?_
  have L4_1 : ∀ (k : Nat) (i2_1 : Int32) (i1_1 : Int32) (T_1 : tm_H) (M_1 : mj_M) (n_1 : Nat), tm_I tm_FT (tm_in w_TrustDesk_fundsNotJoined) x9 T0 M0 n0 T_1 M_1 n_1 → T_1 o0 = some (0, 12, 0) → 0 ≤ i2_1.toInt → 2147483647 - i2_1.toInt < (k : Int) → mj_V g l kY_TrustDesk_fundsNotJoined (d + 3) 4 [(2, .int i2_1), (1, .int i1_1), (0, .ref o0)] [] M_1 n_1 0 0 (tm_Q tm_FT (tm_in w_TrustDesk_fundsNotJoined) x9 T0 M0 n0 (fun r _ _ => ∃ v : Int32, r = some (.int v))) := by
    intro k1
    induction k1 with
    | zero =>
      intro i2_1 i1_1 T_1 M_1 n_1 I_1 h_q0_1 iv0_1 hk1
      have := mz_hi i2_1
      omega
    | succ k1 ih1 =>
      intro i2_1 i1_1 T_1 M_1 n_1 I_1 h_q0_1 iv0_1 hk1
      refine mv_iload_n d_TrustDesk_fundsNotJoined_4 rfl rfl ?_
      refine mv_aload_n d_TrustDesk_fundsNotJoined_5 rfl rfl ?_
      obtain ⟨a3, q2, t_a3⟩ := tm_atO I_1 h_q0_1 (k := 6) rfl
      refine tr_getK q2 d_TrustDesk_fundsNotJoined_6 f_TrustDesk_53_12 ?_
      obtain ⟨m5, n6, e7, N8, f9, h4⟩ := I_1.1 _ _ t_a3
      have := h4.2.1
      have : n6.toInt ≤ 12 := h4.2.2.1
      refine mv_callV_s (kc' := 0) (ks' := 0) [] [.ref a3, .int i2_1] d_TrustDesk_fundsNotJoined_9 lV_TrustDesk_97 h4.1 rfl (tc_L_size (d := (d + 2)) h4.1) rfl (Nat.le_of_ble_eq_true rfl) (Nat.le_of_ble_eq_true rfl) (Nat.le_of_ble_eq_true rfl) rfl ?_
      have := mz_hi i2_1
      have := mz_hi n6
      refine mv_icmp_geZ (tgt := 41) (a := i2_1.toInt) (b := n6.toInt) d_TrustDesk_fundsNotJoined_12 (by decide) rfl rfl (fun b10 => ?_) (fun b10 => ?_)
      · refine mv_iload_n d_TrustDesk_fundsNotJoined_41 rfl rfl ?_
        exact mv_iret d_TrustDesk_fundsNotJoined_42 rfl (by first | rfl | decide) ⟨_, I_1, _, rfl⟩
      · refine mv_aload_n d_TrustDesk_fundsNotJoined_15 rfl rfl ?_
        refine tr_getK (k := 6) q2 d_TrustDesk_fundsNotJoined_16 f_TrustDesk_53_12 ?_
        refine mv_iload_n d_TrustDesk_fundsNotJoined_19 rfl rfl ?_
        obtain ⟨u11e, u11i, a12, u11f, u11t⟩ := tm_el (i := i2_1) h4 (by omega) (by omega)
        have t_a12 : T_1 a12 = some (0, 6, 0) := u11t
        refine mv_callV_s (kc' := 0) (ks' := 0) [.int i2_1] [.int i2_1, .ref a3] d_TrustDesk_fundsNotJoined_20 lV_TrustDesk_158 h4.1 rfl (tc_L_get (d := d) h4.1 u11e (by omega) (by omega) u11i u11f) rfl (Nat.le_of_ble_eq_true rfl) (Nat.le_of_ble_eq_true rfl) (Nat.le_of_ble_eq_true rfl) rfl ?_
        obtain ⟨_, b13, -⟩ := I_1.1 _ _ t_a12
        refine mv_castS (T9 := kF_Fund) (N := 15) d_TrustDesk_fundsNotJoined_23 (mj_in1 (List.mem_of_getElem? (i := 655) (by decide +kernel)) rfl) b13 rfl ?_
        obtain ⟨_, b20, -⟩ := I_1.1 _ _ t_a12
        refine mv_callV (kc' := 0) (ks' := 0) (As := []) (st9 := [.ref a12]) d_TrustDesk_fundsNotJoined_26 lV_TrustDesk_162 b20 rfl (tc_Fund_isJoined (d := (d + 2)) (x9 := x9) (o0 := a12) t_a12 I_1.start) rfl (Nat.le_of_ble_eq_true rfl) (Nat.le_of_ble_eq_true rfl) (Nat.le_of_ble_eq_true rfl) (hst := rfl) (fun b14r M15 n16 b14 => ?_)
        obtain ⟨T17, J18, v21, rfl, b22, b23⟩ := b14
        have I19 := I_1.call J18 (tm_sub (by decide)) (Or.inl rfl)
        have t24 := J18.up h_q0_1
        have q25 := J18.keep h_q0_1 (by decide) q2
        have t26 := J18.up t_a3
        have := mz_hi v21
        refine mv_if_neZ (tgt := 35) (a := v21.toInt) d_TrustDesk_fundsNotJoined_29 (by decide) rfl (fun b27 => ?_) (fun b27 => ?_)
        · refine mv_iinc (v := (i2_1 + 1)) (lv' := [(2, .int (i2_1 + 1)), (1, .int i1_1), (0, .ref o0)]) d_TrustDesk_fundsNotJoined_35 rfl rfl (by decide) rfl ?_
          refine mv_goto (tgt := 4) d_TrustDesk_fundsNotJoined_38 (by decide) ?_
          have b28 : (i2_1 + 1).toInt = i2_1.toInt + 1 := mz_addn 1 1 (by decide) (by have := mz_lo i2_1; omega) (by have := mz_hi i2_1; omega)
          exact ih1 (i2_1 + 1) i1_1 T17 M15 n16 I19 t24 (by first | omega | decide) (by omega)
        · refine mv_iinc (v := (i1_1 + 1)) (lv' := [(1, .int (i1_1 + 1)), (2, .int i2_1), (0, .ref o0)]) d_TrustDesk_fundsNotJoined_32 rfl rfl (by decide) rfl ?_
          refine mv_iinc (v := (i2_1 + 1)) (lv' := [(2, .int (i2_1 + 1)), (1, .int (i1_1 + 1)), (0, .ref o0)]) d_TrustDesk_fundsNotJoined_35 rfl rfl (by decide) rfl ?_
          refine mv_goto (tgt := 4) d_TrustDesk_fundsNotJoined_38 (by decide) ?_
          have b29 : (i2_1 + 1).toInt = i2_1.toInt + 1 := mz_addn 1 1 (by decide) (by have := mz_lo i2_1; omega) (by have := mz_hi i2_1; omega)
          exact ih1 (i2_1 + 1) (i1_1 + 1) T17 M15 n16 I19 t24 (by first | omega | decide) (by omega)
  exact L4_1 4294967296 0 0 T0 M0 n0 I0 h_o0 (by first | omega | decide) (by show (2147483647 : Int) - _ < _; decide)
theorem lV_TrustDesk_521 : mj_lV "TrustDesk" 521 kY_TrustDesk_fundsNotJoined 0 := ⟨⟨(mj_in1 (List.mem_of_getElem? (i := 1302) (by decide +kernel)) rfl), (mj_in1 (List.mem_of_getElem? (i := 1) (by decide +kernel)) rfl), (mj_in1 (List.mem_of_getElem? (i := 1305) (by decide +kernel)) rfl), by decide, rfl, by decide⟩, (mj_in1 (List.mem_of_getElem? (i := 1304) (by decide +kernel)) rfl), (mj_in (List.mem_append_left _ (List.mem_of_getElem? (i := 76) (by decide +kernel))) rfl)⟩
theorem d_TrustDesk_count_144 : decode kY_TrustDesk_count.2.1 144 = .ok (.ireturn, 1) := by decide +kernel
def w_TrustDesk_count : List Nat := []
theorem tc_TrustDesk_count {g : mj_G} {l : Launch} {d : Nat} {T0 : tm_H} {M0 : mj_M} {n0 x9 : Nat} {o0 : Nat} {x1 : Int32} (h_o0 : T0 o0 = some (0, 12, 0)) (I0 : tm_I tm_FT (tm_in w_TrustDesk_count) x9 T0 M0 n0 T0 M0 n0) : mj_Met g l kY_TrustDesk_count (d + 4) [.ref o0, .int x1] M0 n0 0 0 (tm_Q tm_FT (tm_in w_TrustDesk_count) x9 T0 M0 n0 (fun r _ _ => ∃ v : Int32, r = some (.int v))) := by
  refine mj_enter (by decide) (Nat.le_of_ble_eq_true rfl) ?_
  refine mv_iload_n d_TrustDesk_count_0 rfl rfl ?_
  rcases (show (x1.toInt < 0 ∨ 11 < x1.toInt) ∨ x1.toInt = 0 ∨ x1.toInt = 1 ∨ x1.toInt = 2 ∨ x1.toInt = 3 ∨ x1.toInt = 4 ∨ x1.toInt = 5 ∨ x1.toInt = 6 ∨ x1.toInt = 7 ∨ x1.toInt = 8 ∨ x1.toInt = 9 ∨ x1.toInt = 10 ∨ x1.toInt = 11 by omega) with b1 | b1 | b1 | b1 | b1 | b1 | b1 | b1 | b1 | b1 | b1 | b1 | b1
  · refine mv_tableOut (tgt := 145) d_TrustDesk_count_1 b1 (by decide) ?_
    refine mv_iconst (v := (-1)) d_TrustDesk_count_145 (by decide) ?_
    exact mv_iret d_TrustDesk_count_146 rfl (by first | rfl | decide) ⟨_, I0, _, rfl⟩
  · refine mv_tableIn (tgt := 64) (off := 63) d_TrustDesk_count_1 (by omega) (by omega) (by rw [b1]; rfl) (by decide) ?_
    refine mv_aload_n d_TrustDesk_count_64 rfl rfl ?_
    obtain ⟨v3, q2⟩ := tm_atI I0 h_o0 (k := 12) rfl
    refine tr_getK q2 d_TrustDesk_count_65 f_TrustDesk_73_12 ?_
    exact mv_iret d_TrustDesk_count_68 rfl (by first | rfl | decide) ⟨_, I0, _, rfl⟩
  · refine mv_tableIn (tgt := 69) (off := 68) d_TrustDesk_count_1 (by omega) (by omega) (by rw [b1]; rfl) (by decide) ?_
    refine mv_aload_n d_TrustDesk_count_69 rfl rfl ?_
    obtain ⟨v5, q4⟩ := tm_atI I0 h_o0 (k := 12) rfl
    refine tr_getK q4 d_TrustDesk_count_70 f_TrustDesk_73_12 ?_
    refine mv_callS (kc' := 0) (ks' := 0) (As := [.int v5]) (st9 := [.int v5]) d_TrustDesk_count_73 lS_TrustDesk_366 (tc_TrustDesk_yearOf (d := (d + 3)) (x9 := x9) (x1 := v5)  I0.start) rfl (Nat.le_of_ble_eq_true rfl) (Nat.le_of_ble_eq_true rfl) (Nat.le_of_ble_eq_true rfl) (hst := rfl) (fun b6r M7 n8 b6 => ?_)
    obtain ⟨T9, J10, v12, rfl⟩ := b6
    have I11 := I0.call J10 (tm_sub (by decide)) (Or.inl rfl)
    have t13 := J10.up h_o0
    have q14 := J10.keep h_o0 (by decide) q4
    exact mv_iret d_TrustDesk_count_76 rfl (by first | rfl | decide) ⟨_, I11, _, rfl⟩
  · refine mv_tableIn (tgt := 77) (off := 76) d_TrustDesk_count_1 (by omega) (by omega) (by rw [b1]; rfl) (by decide) ?_
    refine mv_aload_n d_TrustDesk_count_77 rfl rfl ?_
    obtain ⟨a16, q15, t_a16⟩ := tm_atR I0 h_o0 (k := 0) rfl
    refine tr_getK q15 d_TrustDesk_count_78 f_TrustDesk_10_12 ?_
    obtain ⟨v18, q17⟩ := tm_atI I0 t_a16 (k := 4) rfl
    refine tr_getK q17 d_TrustDesk_count_81 f_TrustDesk_515_5 ?_
    exact mv_iret d_TrustDesk_count_84 rfl (by first | rfl | decide) ⟨_, I0, _, rfl⟩
  · refine mv_tableIn (tgt := 85) (off := 84) d_TrustDesk_count_1 (by omega) (by omega) (by rw [b1]; rfl) (by decide) ?_
    refine mv_aload_n d_TrustDesk_count_85 rfl rfl ?_
    obtain ⟨a20, q19, t_a20⟩ := tm_atO I0 h_o0 (k := 5) rfl
    refine tr_getK q19 d_TrustDesk_count_86 f_TrustDesk_49_12 ?_
    obtain ⟨m22, n23, e24, N25, f26, h21⟩ := I0.1 _ _ t_a20
    have := h21.2.1
    have : n23.toInt ≤ 20 := h21.2.2.1
    refine mv_callV_s (kc' := 0) (ks' := 0) [] [.ref a20] d_TrustDesk_count_89 lV_TrustDesk_97 h21.1 rfl (tc_L_size (d := (d + 3)) h21.1) rfl (Nat.le_of_ble_eq_true rfl) (Nat.le_of_ble_eq_true rfl) (Nat.le_of_ble_eq_true rfl) rfl ?_
    exact mv_iret d_TrustDesk_count_92 rfl (by first | rfl | decide) ⟨_, I0, _, rfl⟩
  · refine mv_tableIn (tgt := 93) (off := 92) d_TrustDesk_count_1 (by omega) (by omega) (by rw [b1]; rfl) (by decide) ?_
    refine mv_aload_n d_TrustDesk_count_93 rfl rfl ?_
    obtain ⟨a28, q27, t_a28⟩ := tm_atO I0 h_o0 (k := 6) rfl
    refine tr_getK q27 d_TrustDesk_count_94 f_TrustDesk_53_12 ?_
    obtain ⟨m30, n31, e32, N33, f34, h29⟩ := I0.1 _ _ t_a28
    have := h29.2.1
    have : n31.toInt ≤ 12 := h29.2.2.1
    refine mv_callV_s (kc' := 0) (ks' := 0) [] [.ref a28] d_TrustDesk_count_97 lV_TrustDesk_97 h29.1 rfl (tc_L_size (d := (d + 3)) h29.1) rfl (Nat.le_of_ble_eq_true rfl) (Nat.le_of_ble_eq_true rfl) (Nat.le_of_ble_eq_true rfl) rfl ?_
    exact mv_iret d_TrustDesk_count_100 rfl (by first | rfl | decide) ⟨_, I0, _, rfl⟩
  · refine mv_tableIn (tgt := 101) (off := 100) d_TrustDesk_count_1 (by omega) (by omega) (by rw [b1]; rfl) (by decide) ?_
    refine mv_aload_n d_TrustDesk_count_101 rfl rfl ?_
    obtain ⟨a36, q35, t_a36⟩ := tm_atO I0 h_o0 (k := 7) rfl
    refine tr_getK q35 d_TrustDesk_count_102 f_TrustDesk_56_12 ?_
    obtain ⟨m38, n39, e40, N41, f42, h37⟩ := I0.1 _ _ t_a36
    have := h37.2.1
    have : n39.toInt ≤ 12 := h37.2.2.1
    refine mv_callV_s (kc' := 0) (ks' := 0) [] [.ref a36] d_TrustDesk_count_105 lV_TrustDesk_97 h37.1 rfl (tc_L_size (d := (d + 3)) h37.1) rfl (Nat.le_of_ble_eq_true rfl) (Nat.le_of_ble_eq_true rfl) (Nat.le_of_ble_eq_true rfl) rfl ?_
    exact mv_iret d_TrustDesk_count_108 rfl (by first | rfl | decide) ⟨_, I0, _, rfl⟩
  · refine mv_tableIn (tgt := 109) (off := 108) d_TrustDesk_count_1 (by omega) (by omega) (by rw [b1]; rfl) (by decide) ?_
    refine mv_aload_n d_TrustDesk_count_109 rfl rfl ?_
    obtain ⟨a44, q43, t_a44⟩ := tm_atO I0 h_o0 (k := 8) rfl
    refine tr_getK q43 d_TrustDesk_count_110 f_TrustDesk_59_12 ?_
    obtain ⟨m46, n47, e48, N49, f50, h45⟩ := I0.1 _ _ t_a44
    have := h45.2.1
    have : n47.toInt ≤ 40 := h45.2.2.1
    refine mv_callV_s (kc' := 0) (ks' := 0) [] [.ref a44] d_TrustDesk_count_113 lV_TrustDesk_97 h45.1 rfl (tc_L_size (d := (d + 3)) h45.1) rfl (Nat.le_of_ble_eq_true rfl) (Nat.le_of_ble_eq_true rfl) (Nat.le_of_ble_eq_true rfl) rfl ?_
    exact mv_iret d_TrustDesk_count_116 rfl (by first | rfl | decide) ⟨_, I0, _, rfl⟩
  · refine mv_tableIn (tgt := 117) (off := 116) d_TrustDesk_count_1 (by omega) (by omega) (by rw [b1]; rfl) (by decide) ?_
    refine mv_aload_n d_TrustDesk_count_117 rfl rfl ?_
    obtain ⟨v52, q51⟩ := tm_atI I0 h_o0 (k := 10) rfl
    refine tr_getK q51 d_TrustDesk_count_118 f_TrustDesk_254_12 ?_
    exact mv_iret d_TrustDesk_count_121 rfl (by first | rfl | decide) ⟨_, I0, _, rfl⟩
  · refine mv_tableIn (tgt := 122) (off := 121) d_TrustDesk_count_1 (by omega) (by omega) (by rw [b1]; rfl) (by decide) ?_
    refine mv_aload_n d_TrustDesk_count_122 rfl rfl ?_
    obtain ⟨a54, q53, t_a54⟩ := tm_atR I0 h_o0 (k := 1) rfl
    refine tr_getK q53 d_TrustDesk_count_123 f_TrustDesk_19_12 ?_
    obtain ⟨v56, q55⟩ := tm_atI I0 t_a54 (k := 0) rfl
    refine tr_getK q55 d_TrustDesk_count_126 f_TrustDesk_88_9 ?_
    exact mv_iret d_TrustDesk_count_129 rfl (by first | rfl | decide) ⟨_, I0, _, rfl⟩
  · refine mv_tableIn (tgt := 130) (off := 129) d_TrustDesk_count_1 (by omega) (by omega) (by rw [b1]; rfl) (by decide) ?_
    refine mv_aload_n d_TrustDesk_count_130 rfl rfl ?_
    obtain ⟨v58, q57⟩ := tm_atI I0 h_o0 (k := 11) rfl
    refine tr_getK q57 d_TrustDesk_count_131 f_TrustDesk_509_12 ?_
    exact mv_iret d_TrustDesk_count_134 rfl (by first | rfl | decide) ⟨_, I0, _, rfl⟩
  · refine mv_tableIn (tgt := 135) (off := 134) d_TrustDesk_count_1 (by omega) (by omega) (by rw [b1]; rfl) (by decide) ?_
    refine mv_aload_n d_TrustDesk_count_135 rfl rfl ?_
    obtain ⟨_, b65, -⟩ := I0.1 _ _ h_o0
    refine mv_callV (kc' := 0) (ks' := 0) (As := []) (st9 := [.ref o0]) d_TrustDesk_count_136 lV_TrustDesk_518 b65 rfl (tc_TrustDesk_schemesMade (d := d) (x9 := x9) (o0 := o0) h_o0 I0.start) rfl (Nat.le_of_ble_eq_true rfl) (Nat.le_of_ble_eq_true rfl) (Nat.le_of_ble_eq_true rfl) (hst := rfl) (fun b59r M60 n61 b59 => ?_)
    obtain ⟨T62, J63, v66, rfl⟩ := b59
    have I64 := I0.call J63 (tm_sub (by decide)) (Or.inl rfl)
    have t67 := J63.up h_o0
    exact mv_iret d_TrustDesk_count_139 rfl (by first | rfl | decide) ⟨_, I64, _, rfl⟩
  · refine mv_tableIn (tgt := 140) (off := 139) d_TrustDesk_count_1 (by omega) (by omega) (by rw [b1]; rfl) (by decide) ?_
    refine mv_aload_n d_TrustDesk_count_140 rfl rfl ?_
    obtain ⟨_, b74, -⟩ := I0.1 _ _ h_o0
    refine mv_callV (kc' := 0) (ks' := 0) (As := []) (st9 := [.ref o0]) d_TrustDesk_count_141 lV_TrustDesk_521 b74 rfl (tc_TrustDesk_fundsNotJoined (d := d) (x9 := x9) (o0 := o0) h_o0 I0.start) rfl (Nat.le_of_ble_eq_true rfl) (Nat.le_of_ble_eq_true rfl) (Nat.le_of_ble_eq_true rfl) (hst := rfl) (fun b68r M69 n70 b68 => ?_)
    obtain ⟨T71, J72, v75, rfl⟩ := b68
    have I73 := I0.call J72 (tm_sub (by decide)) (Or.inl rfl)
    have t76 := J72.up h_o0
    exact mv_iret d_TrustDesk_count_144 rfl (by first | rfl | decide) ⟨_, I73, _, rfl⟩
abbrev kY_TrustDesk_end : mj_Y := (⟨"TrustDesk", "end", "(I)I"⟩, prog_1_method_5_code, 2, (Option.some Jvm.ClassFile.FieldType.int))
theorem d_TrustDesk_end_0 : decode kY_TrustDesk_end.2.1 0 = .ok (.iload_n 1, 1) := by decide +kernel
theorem d_TrustDesk_end_1 : decode kY_TrustDesk_end.2.1 1 = .ok (.ifCond .lt 14, 3) := by decide +kernel
theorem d_TrustDesk_end_15 : decode kY_TrustDesk_end.2.1 15 = .ok (.iconst (-1), 1) := by decide +kernel
theorem d_TrustDesk_end_16 : decode kY_TrustDesk_end.2.1 16 = .ok (.ireturn, 1) := by decide +kernel
theorem d_TrustDesk_end_4 : decode kY_TrustDesk_end.2.1 4 = .ok (.iload_n 1, 1) := by decide +kernel
theorem d_TrustDesk_end_5 : decode kY_TrustDesk_end.2.1 5 = .ok (.aload_n 0, 1) := by decide +kernel
theorem d_TrustDesk_end_6 : decode kY_TrustDesk_end.2.1 6 = .ok (.getfield 19, 3) := by decide +kernel
theorem d_TrustDesk_end_9 : decode kY_TrustDesk_end.2.1 9 = .ok (.getfield 88, 3) := by decide +kernel
theorem d_TrustDesk_end_12 : decode kY_TrustDesk_end.2.1 12 = .ok (.if_icmp .le 5, 3) := by decide +kernel
theorem d_TrustDesk_end_17 : decode kY_TrustDesk_end.2.1 17 = .ok (.aload_n 0, 1) := by decide +kernel
theorem d_TrustDesk_end_18 : decode kY_TrustDesk_end.2.1 18 = .ok (.getfield 19, 3) := by decide +kernel
theorem d_TrustDesk_end_21 : decode kY_TrustDesk_end.2.1 21 = .ok (.iload_n 1, 1) := by decide +kernel
theorem d_TrustDesk_end_22 : decode kY_TrustDesk_end.2.1 22 = .ok (.putfield 88, 3) := by decide +kernel
theorem p_TrustDesk_88_9 : mj_fp "TrustDesk" 88 9 0 (kt_Reader 0) false := ⟨kR_Reader, kF_Reader, 19, "TrustDesk$Reader", kt_Reader, rfl, kg_9, by decide, (mj_in1 (List.mem_of_getElem? (i := 70) (by decide +kernel)) rfl), Or.inl rfl, kto_Reader, kn_Reader, rfl, rfl, fun h => by cases h⟩
theorem d_TrustDesk_end_25 : decode kY_TrustDesk_end.2.1 25 = .ok (.iload_n 1, 1) := by decide +kernel
theorem d_TrustDesk_end_26 : decode kY_TrustDesk_end.2.1 26 = .ok (.ireturn, 1) := by decide +kernel
def w_TrustDesk_end : List Nat := [900]
theorem tc_TrustDesk_end {g : mj_G} {l : Launch} {d : Nat} {T0 : tm_H} {M0 : mj_M} {n0 x9 : Nat} {o0 : Nat} {x1 : Int32} (h_o0 : T0 o0 = some (0, 12, 0)) (I0 : tm_I tm_FT (tm_in w_TrustDesk_end) x9 T0 M0 n0 T0 M0 n0) : mj_Met g l kY_TrustDesk_end d [.ref o0, .int x1] M0 n0 0 0 (tm_Q tm_FT (tm_in w_TrustDesk_end) x9 T0 M0 n0 (fun r _ _ => ∃ v : Int32, r = some (.int v))) := by
  refine mj_enter (by decide) (Nat.le_of_ble_eq_true rfl) ?_
  refine mv_iload_n d_TrustDesk_end_0 rfl rfl ?_
  have := mz_hi x1
  refine mv_if_ltZ (tgt := 15) (a := x1.toInt) d_TrustDesk_end_1 (by decide) rfl (fun b1 => ?_) (fun b1 => ?_)
  · refine mv_iconst (v := (-1)) d_TrustDesk_end_15 (by decide) ?_
    exact mv_iret d_TrustDesk_end_16 rfl (by first | rfl | decide) ⟨_, I0, _, rfl⟩
  · refine mv_iload_n d_TrustDesk_end_4 rfl rfl ?_
    refine mv_aload_n d_TrustDesk_end_5 rfl rfl ?_
    obtain ⟨a3, q2, t_a3⟩ := tm_atR I0 h_o0 (k := 1) rfl
    refine tr_getK q2 d_TrustDesk_end_6 f_TrustDesk_19_12 ?_
    obtain ⟨v5, q4⟩ := tm_atI I0 t_a3 (k := 0) rfl
    refine tr_getK q4 d_TrustDesk_end_9 f_TrustDesk_88_9 ?_
    have := mz_hi x1
    have := mz_hi v5
    refine mv_icmp_leZ (tgt := 17) (a := x1.toInt) (b := v5.toInt) d_TrustDesk_end_12 (by decide) rfl rfl (fun b6 => ?_) (fun b6 => ?_)
    · refine mv_aload_n d_TrustDesk_end_17 rfl rfl ?_
      refine tr_getK (k := 1) q2 d_TrustDesk_end_18 f_TrustDesk_19_12 ?_
      refine mv_iload_n d_TrustDesk_end_21 rfl rfl ?_
      refine tr_putK tm_okF I0 t_a3 (k := 0) rfl ⟨_, rfl⟩ (Or.inl (by decide)) d_TrustDesk_end_22 p_TrustDesk_88_9 rfl rfl (fun M7 I8 q9 K10 => ?_)
      refine mv_iload_n d_TrustDesk_end_25 rfl rfl ?_
      exact mv_iret d_TrustDesk_end_26 rfl (by first | rfl | decide) ⟨_, I8, _, rfl⟩
    · refine mv_iconst (v := (-1)) d_TrustDesk_end_15 (by decide) ?_
      exact mv_iret d_TrustDesk_end_16 rfl (by first | rfl | decide) ⟨_, I0, _, rfl⟩
abbrev kY_TrustDesk_endAt : mj_Y := (⟨"TrustDesk", "endAt", "(II)LTrustDesk$End;"⟩, prog_1_method_61_code, 4, (Option.some (Jvm.ClassFile.FieldType.object "TrustDesk$End")))
theorem d_TrustDesk_endAt_0 : decode kY_TrustDesk_endAt.2.1 0 = .ok (.aload_n 0, 1) := by decide +kernel
theorem d_TrustDesk_endAt_1 : decode kY_TrustDesk_endAt.2.1 1 = .ok (.iload_n 1, 1) := by decide +kernel
theorem d_TrustDesk_endAt_2 : decode kY_TrustDesk_endAt.2.1 2 = .ok (.invokevirtual 257, 3) := by decide +kernel
theorem d_TrustDesk_endAt_5 : decode kY_TrustDesk_endAt.2.1 5 = .ok (.astore_n 3, 1) := by decide +kernel
theorem d_TrustDesk_endAt_6 : decode kY_TrustDesk_endAt.2.1 6 = .ok (.aload_n 3, 1) := by decide +kernel
theorem d_TrustDesk_endAt_7 : decode kY_TrustDesk_endAt.2.1 7 = .ok (.ifnonnull 7, 3) := by decide +kernel
theorem d_TrustDesk_endAt_10 : decode kY_TrustDesk_endAt.2.1 10 = .ok (.aconst_null, 1) := by decide +kernel
theorem d_TrustDesk_endAt_11 : decode kY_TrustDesk_endAt.2.1 11 = .ok (.goto 8, 3) := by decide +kernel
theorem d_TrustDesk_endAt_19 : decode kY_TrustDesk_endAt.2.1 19 = .ok (.areturn, 1) := by decide +kernel
theorem d_TrustDesk_endAt_14 : decode kY_TrustDesk_endAt.2.1 14 = .ok (.aload_n 3, 1) := by decide +kernel
theorem d_TrustDesk_endAt_15 : decode kY_TrustDesk_endAt.2.1 15 = .ok (.iload_n 2, 1) := by decide +kernel
theorem d_TrustDesk_endAt_16 : decode kY_TrustDesk_endAt.2.1 16 = .ok (.invokevirtual 359, 3) := by decide +kernel
def w_TrustDesk_endAt : List Nat := []
theorem tc_TrustDesk_endAt {g : mj_G} {l : Launch} {d : Nat} {T0 : tm_H} {M0 : mj_M} {n0 x9 : Nat} {o0 : Nat} {x1 : Int32} {x2 : Int32} (h_o0 : T0 o0 = some (0, 12, 0)) (I0 : tm_I tm_FT (tm_in w_TrustDesk_endAt) x9 T0 M0 n0 T0 M0 n0) : mj_Met g l kY_TrustDesk_endAt (d + 4) [.ref o0, .int x1, .int x2] M0 n0 0 0 (tm_Q tm_FT (tm_in w_TrustDesk_endAt) x9 T0 M0 n0 (fun r T _ => r = some .null ∨ ∃ b, r = some (.ref b) ∧ T b = some (0, 3, 0))) := by
  refine mj_enter (by decide) (Nat.le_of_ble_eq_true rfl) ?_
  refine mv_aload_n d_TrustDesk_endAt_0 rfl rfl ?_
  refine mv_iload_n d_TrustDesk_endAt_1 rfl rfl ?_
  obtain ⟨_, b7, -⟩ := I0.1 _ _ h_o0
  refine mv_callV (kc' := 0) (ks' := 0) (As := [.int x1]) (st9 := [.int x1, .ref o0]) d_TrustDesk_endAt_2 lV_TrustDesk_257 b7 rfl (tc_TrustDesk_fundAt (d := d) (x9 := x9) (o0 := o0) (x1 := x1) h_o0 I0.start) rfl (Nat.le_of_ble_eq_true rfl) (Nat.le_of_ble_eq_true rfl) (Nat.le_of_ble_eq_true rfl) (hst := rfl) (fun b1r M2 n3 b1 => ?_)
  obtain ⟨T4, J5, b9⟩ := b1
  have I6 := I0.call J5 (tm_sub (by decide)) (Or.inl rfl)
  have t10 := J5.up h_o0
  rcases b9 with rfl | ⟨a8, rfl, t_a8⟩
  · refine mv_astore_nN (lv' := [(3, .null), (0, .ref o0), (1, .int x1), (2, .int x2)]) d_TrustDesk_endAt_5 rfl (by decide) rfl ?_
    refine mv_aload_nN d_TrustDesk_endAt_6 rfl rfl ?_
    refine mv_ifnonnullN d_TrustDesk_endAt_7 ?_
    refine mv_null d_TrustDesk_endAt_10 ?_
    refine mv_goto (tgt := 19) d_TrustDesk_endAt_11 (by decide) ?_
    exact mv_aret (r := none) d_TrustDesk_endAt_19 rfl (by first | exact Or.inl ⟨_, rfl⟩ | exact Or.inr ⟨_, rfl⟩) ⟨_, I6, Or.inl rfl⟩
  · refine mv_astore_n (lv' := [(3, .ref a8), (0, .ref o0), (1, .int x1), (2, .int x2)]) d_TrustDesk_endAt_5 rfl (by decide) rfl ?_
    refine mv_aload_n d_TrustDesk_endAt_6 rfl rfl ?_
    refine mv_ifnonnull (tgt := 14) d_TrustDesk_endAt_7 (by decide) ?_
    refine mv_aload_n d_TrustDesk_endAt_14 rfl rfl ?_
    refine mv_iload_n d_TrustDesk_endAt_15 rfl rfl ?_
    obtain ⟨_, b17, -⟩ := I6.1 _ _ t_a8
    refine mv_callV (kc' := 0) (ks' := 0) (As := [.int x2]) (st9 := [.int x2, .ref a8]) d_TrustDesk_endAt_16 lV_TrustDesk_359 b17 rfl (tc_Fund_endAt (d := d) (x9 := x9) (o0 := a8) (x1 := x2) t_a8 I6.start) rfl (Nat.le_of_ble_eq_true rfl) (Nat.le_of_ble_eq_true rfl) (Nat.le_of_ble_eq_true rfl) (hst := rfl) (fun b11r M12 n13 b11 => ?_)
    obtain ⟨T14, J15, b19⟩ := b11
    have I16 := I6.call J15 (tm_sub (by decide)) (Or.inl rfl)
    have t20 := J15.up t_a8
    have t21 := J15.up t10
    rcases b19 with rfl | ⟨a18, rfl, t_a18⟩
    · exact mv_aret (r := none) d_TrustDesk_endAt_19 rfl (by first | exact Or.inl ⟨_, rfl⟩ | exact Or.inr ⟨_, rfl⟩) ⟨_, I16, Or.inl rfl⟩
    · exact mv_aret (r := some a18) d_TrustDesk_endAt_19 rfl (by first | exact Or.inl ⟨_, rfl⟩ | exact Or.inr ⟨_, rfl⟩) ⟨_, I16, Or.inr ⟨_, rfl, t_a18⟩⟩
abbrev kY_TrustDesk_endOf : mj_Y := (⟨"TrustDesk", "endOf", "(III)I"⟩, prog_1_method_43_code, 5, (Option.some Jvm.ClassFile.FieldType.int))
theorem d_TrustDesk_endOf_0 : decode kY_TrustDesk_endOf.2.1 0 = .ok (.aload_n 0, 1) := by decide +kernel
theorem d_TrustDesk_endOf_1 : decode kY_TrustDesk_endOf.2.1 1 = .ok (.iload_n 1, 1) := by decide +kernel
theorem d_TrustDesk_endOf_2 : decode kY_TrustDesk_endOf.2.1 2 = .ok (.iload_n 2, 1) := by decide +kernel
theorem d_TrustDesk_endOf_3 : decode kY_TrustDesk_endOf.2.1 3 = .ok (.invokevirtual 465, 3) := by decide +kernel
theorem lV_TrustDesk_465 : mj_lV "TrustDesk" 465 kY_TrustDesk_endAt 2 := ⟨⟨(mj_in1 (List.mem_of_getElem? (i := 1191) (by decide +kernel)) rfl), (mj_in1 (List.mem_of_getElem? (i := 1) (by decide +kernel)) rfl), (mj_in1 (List.mem_of_getElem? (i := 1194) (by decide +kernel)) rfl), by decide, rfl, by decide⟩, (mj_in1 (List.mem_of_getElem? (i := 1193) (by decide +kernel)) rfl), (mj_in (List.mem_append_left _ (List.mem_of_getElem? (i := 66) (by decide +kernel))) rfl)⟩
theorem d_TrustDesk_endOf_6 : decode kY_TrustDesk_endOf.2.1 6 = .ok (.astore 4, 2) := by decide +kernel
theorem d_TrustDesk_endOf_8 : decode kY_TrustDesk_endOf.2.1 8 = .ok (.aload 4, 2) := by decide +kernel
theorem d_TrustDesk_endOf_10 : decode kY_TrustDesk_endOf.2.1 10 = .ok (.ifnonnull 5, 3) := by decide +kernel
theorem d_TrustDesk_endOf_13 : decode kY_TrustDesk_endOf.2.1 13 = .ok (.iconst (-1), 1) := by decide +kernel
theorem d_TrustDesk_endOf_14 : decode kY_TrustDesk_endOf.2.1 14 = .ok (.ireturn, 1) := by decide +kernel
theorem d_TrustDesk_endOf_15 : decode kY_TrustDesk_endOf.2.1 15 = .ok (.iload_n 3, 1) := by decide +kernel
theorem d_TrustDesk_endOf_16 : decode kY_TrustDesk_endOf.2.1 16 = .ok (.tableswitch 59 0 3 #[32, 38, 44, 50], 32) := by decide +kernel
theorem d_TrustDesk_endOf_75 : decode kY_TrustDesk_endOf.2.1 75 = .ok (.iconst (-1), 1) := by decide +kernel
theorem d_TrustDesk_endOf_76 : decode kY_TrustDesk_endOf.2.1 76 = .ok (.ireturn, 1) := by decide +kernel
theorem d_TrustDesk_endOf_48 : decode kY_TrustDesk_endOf.2.1 48 = .ok (.aload 4, 2) := by decide +kernel
theorem d_TrustDesk_endOf_50 : decode kY_TrustDesk_endOf.2.1 50 = .ok (.getfield 193, 3) := by decide +kernel
theorem d_TrustDesk_endOf_53 : decode kY_TrustDesk_endOf.2.1 53 = .ok (.ireturn, 1) := by decide +kernel
theorem d_TrustDesk_endOf_54 : decode kY_TrustDesk_endOf.2.1 54 = .ok (.aload 4, 2) := by decide +kernel
theorem d_TrustDesk_endOf_56 : decode kY_TrustDesk_endOf.2.1 56 = .ok (.getfield 222, 3) := by decide +kernel
theorem f_TrustDesk_222_3 : mj_fl "TrustDesk" 222 3 2 := ⟨kR_End, kF_End, 4, "TrustDesk$End", rfl, kg_3, by decide, (mj_in1 (List.mem_of_getElem? (i := 792) (by decide +kernel)) rfl), Or.inl rfl⟩
theorem d_TrustDesk_endOf_59 : decode kY_TrustDesk_endOf.2.1 59 = .ok (.ireturn, 1) := by decide +kernel
theorem d_TrustDesk_endOf_60 : decode kY_TrustDesk_endOf.2.1 60 = .ok (.aload 4, 2) := by decide +kernel
theorem d_TrustDesk_endOf_62 : decode kY_TrustDesk_endOf.2.1 62 = .ok (.getfield 468, 3) := by decide +kernel
theorem f_TrustDesk_468_3 : mj_fl "TrustDesk" 468 3 3 := ⟨kR_End, kF_End, 4, "TrustDesk$End", rfl, kg_3, by decide, (mj_in1 (List.mem_of_getElem? (i := 794) (by decide +kernel)) rfl), Or.inl rfl⟩
theorem d_TrustDesk_endOf_65 : decode kY_TrustDesk_endOf.2.1 65 = .ok (.ireturn, 1) := by decide +kernel
theorem d_TrustDesk_endOf_66 : decode kY_TrustDesk_endOf.2.1 66 = .ok (.aload 4, 2) := by decide +kernel
theorem d_TrustDesk_endOf_68 : decode kY_TrustDesk_endOf.2.1 68 = .ok (.getfield 204, 3) := by decide +kernel
theorem f_TrustDesk_204_3 : mj_fl "TrustDesk" 204 3 0 := ⟨kR_End, kF_End, 4, "TrustDesk$End", rfl, kg_3, by decide, (mj_in1 (List.mem_of_getElem? (i := 787) (by decide +kernel)) rfl), Or.inl rfl⟩
theorem d_TrustDesk_endOf_71 : decode kY_TrustDesk_endOf.2.1 71 = .ok (.getfield 471, 3) := by decide +kernel
theorem kg_4 : ∀ w ∈ u_ws kR_EndText kF_EndText 5, w ∈ mj_T := fun w h => mj_in1 (ki_EndText w h) (List.all_eq_true.mp (show (u_ws kR_EndText kF_EndText 5).all mj_good = true by decide +kernel) w h)
theorem f_TrustDesk_471_4 : mj_fl "TrustDesk" 471 4 1 := ⟨kR_EndText, kF_EndText, 5, "TrustDesk$EndText", rfl, kg_4, by decide, (mj_in1 (List.mem_of_getElem? (i := 761) (by decide +kernel)) rfl), Or.inl rfl⟩
theorem d_TrustDesk_endOf_74 : decode kY_TrustDesk_endOf.2.1 74 = .ok (.ireturn, 1) := by decide +kernel
def w_TrustDesk_endOf : List Nat := []
theorem tc_TrustDesk_endOf {g : mj_G} {l : Launch} {d : Nat} {T0 : tm_H} {M0 : mj_M} {n0 x9 : Nat} {o0 : Nat} {x1 : Int32} {x2 : Int32} {x3 : Int32} (h_o0 : T0 o0 = some (0, 12, 0)) (I0 : tm_I tm_FT (tm_in w_TrustDesk_endOf) x9 T0 M0 n0 T0 M0 n0) : mj_Met g l kY_TrustDesk_endOf (d + 5) [.ref o0, .int x1, .int x2, .int x3] M0 n0 0 0 (tm_Q tm_FT (tm_in w_TrustDesk_endOf) x9 T0 M0 n0 (fun r _ _ => ∃ v : Int32, r = some (.int v))) := by
  refine mj_enter (by decide) (Nat.le_of_ble_eq_true rfl) ?_
  refine mv_aload_n d_TrustDesk_endOf_0 rfl rfl ?_
  refine mv_iload_n d_TrustDesk_endOf_1 rfl rfl ?_
  refine mv_iload_n d_TrustDesk_endOf_2 rfl rfl ?_
  obtain ⟨_, b7, -⟩ := I0.1 _ _ h_o0
  refine mv_callV (kc' := 0) (ks' := 0) (As := [.int x1, .int x2]) (st9 := [.int x2, .int x1, .ref o0]) d_TrustDesk_endOf_3 lV_TrustDesk_465 b7 rfl (tc_TrustDesk_endAt (d := d) (x9 := x9) (o0 := o0) (x1 := x1) (x2 := x2) h_o0 I0.start) rfl (Nat.le_of_ble_eq_true rfl) (Nat.le_of_ble_eq_true rfl) (Nat.le_of_ble_eq_true rfl) (hst := rfl) (fun b1r M2 n3 b1 => ?_)
  obtain ⟨T4, J5, b9⟩ := b1
  have I6 := I0.call J5 (tm_sub (by decide)) (Or.inl rfl)
  have t10 := J5.up h_o0
  rcases b9 with rfl | ⟨a8, rfl, t_a8⟩
  · refine mv_astoreN (lv' := [(4, .null), (0, .ref o0), (1, .int x1), (2, .int x2), (3, .int x3)]) d_TrustDesk_endOf_6 (by decide) rfl ?_
    refine mv_aloadN d_TrustDesk_endOf_8 rfl ?_
    refine mv_ifnonnullN d_TrustDesk_endOf_10 ?_
    refine mv_iconst (v := (-1)) d_TrustDesk_endOf_13 (by decide) ?_
    exact mv_iret d_TrustDesk_endOf_14 rfl (by first | rfl | decide) ⟨_, I6, _, rfl⟩
  · refine mv_astore (lv' := [(4, .ref a8), (0, .ref o0), (1, .int x1), (2, .int x2), (3, .int x3)]) d_TrustDesk_endOf_6 (by decide) rfl ?_
    refine mv_aload d_TrustDesk_endOf_8 rfl ?_
    refine mv_ifnonnull (tgt := 15) d_TrustDesk_endOf_10 (by decide) ?_
    refine mv_iload_n d_TrustDesk_endOf_15 rfl rfl ?_
    rcases (show (x3.toInt < 0 ∨ 3 < x3.toInt) ∨ x3.toInt = 0 ∨ x3.toInt = 1 ∨ x3.toInt = 2 ∨ x3.toInt = 3 by omega) with b11 | b11 | b11 | b11 | b11
    · refine mv_tableOut (tgt := 75) d_TrustDesk_endOf_16 b11 (by decide) ?_
      refine mv_iconst (v := (-1)) d_TrustDesk_endOf_75 (by decide) ?_
      exact mv_iret d_TrustDesk_endOf_76 rfl (by first | rfl | decide) ⟨_, I6, _, rfl⟩
    · refine mv_tableIn (tgt := 48) (off := 32) d_TrustDesk_endOf_16 (by omega) (by omega) (by rw [b11]; rfl) (by decide) ?_
      refine mv_aload d_TrustDesk_endOf_48 rfl ?_
      obtain ⟨v13, q12⟩ := tm_atI I6 t_a8 (k := 1) rfl
      refine tr_getK q12 d_TrustDesk_endOf_50 f_TrustDesk_193_3 ?_
      exact mv_iret d_TrustDesk_endOf_53 rfl (by first | rfl | decide) ⟨_, I6, _, rfl⟩
    · refine mv_tableIn (tgt := 54) (off := 38) d_TrustDesk_endOf_16 (by omega) (by omega) (by rw [b11]; rfl) (by decide) ?_
      refine mv_aload d_TrustDesk_endOf_54 rfl ?_
      obtain ⟨v15, q14⟩ := tm_atI I6 t_a8 (k := 2) rfl
      refine tr_getK q14 d_TrustDesk_endOf_56 f_TrustDesk_222_3 ?_
      exact mv_iret d_TrustDesk_endOf_59 rfl (by first | rfl | decide) ⟨_, I6, _, rfl⟩
    · refine mv_tableIn (tgt := 60) (off := 44) d_TrustDesk_endOf_16 (by omega) (by omega) (by rw [b11]; rfl) (by decide) ?_
      refine mv_aload d_TrustDesk_endOf_60 rfl ?_
      obtain ⟨v17, q16⟩ := tm_atI I6 t_a8 (k := 3) rfl
      refine tr_getK q16 d_TrustDesk_endOf_62 f_TrustDesk_468_3 ?_
      exact mv_iret d_TrustDesk_endOf_65 rfl (by first | rfl | decide) ⟨_, I6, _, rfl⟩
    · refine mv_tableIn (tgt := 66) (off := 50) d_TrustDesk_endOf_16 (by omega) (by omega) (by rw [b11]; rfl) (by decide) ?_
      refine mv_aload d_TrustDesk_endOf_66 rfl ?_
      obtain ⟨a19, q18, t_a19⟩ := tm_atR I6 t_a8 (k := 0) rfl
      refine tr_getK q18 d_TrustDesk_endOf_68 f_TrustDesk_204_3 ?_
      obtain ⟨v21, q20⟩ := tm_atI I6 t_a19 (k := 1) rfl
      refine tr_getK q20 d_TrustDesk_endOf_71 f_TrustDesk_471_4 ?_
      exact mv_iret d_TrustDesk_endOf_74 rfl (by first | rfl | decide) ⟨_, I6, _, rfl⟩
abbrev kY_TrustDesk_entry : mj_Y := (⟨"TrustDesk", "entry", "(II)I"⟩, prog_1_method_46_code, 4, (Option.some Jvm.ClassFile.FieldType.int))
theorem d_TrustDesk_entry_0 : decode kY_TrustDesk_entry.2.1 0 = .ok (.iload_n 1, 1) := by decide +kernel
theorem d_TrustDesk_entry_1 : decode kY_TrustDesk_entry.2.1 1 = .ok (.ifCond .lt 20, 3) := by decide +kernel
theorem d_TrustDesk_entry_21 : decode kY_TrustDesk_entry.2.1 21 = .ok (.iconst (-1), 1) := by decide +kernel
theorem d_TrustDesk_entry_22 : decode kY_TrustDesk_entry.2.1 22 = .ok (.ireturn, 1) := by decide +kernel
theorem d_TrustDesk_entry_4 : decode kY_TrustDesk_entry.2.1 4 = .ok (.iload_n 1, 1) := by decide +kernel
theorem d_TrustDesk_entry_5 : decode kY_TrustDesk_entry.2.1 5 = .ok (.aload_n 0, 1) := by decide +kernel
theorem d_TrustDesk_entry_6 : decode kY_TrustDesk_entry.2.1 6 = .ok (.getfield 254, 3) := by decide +kernel
theorem d_TrustDesk_entry_9 : decode kY_TrustDesk_entry.2.1 9 = .ok (.if_icmp .ge 12, 3) := by decide +kernel
theorem d_TrustDesk_entry_12 : decode kY_TrustDesk_entry.2.1 12 = .ok (.iload_n 2, 1) := by decide +kernel
theorem d_TrustDesk_entry_13 : decode kY_TrustDesk_entry.2.1 13 = .ok (.ifCond .lt 8, 3) := by decide +kernel
theorem d_TrustDesk_entry_16 : decode kY_TrustDesk_entry.2.1 16 = .ok (.iload_n 2, 1) := by decide +kernel
theorem d_TrustDesk_entry_17 : decode kY_TrustDesk_entry.2.1 17 = .ok (.iconst 4, 1) := by decide +kernel
theorem d_TrustDesk_entry_18 : decode kY_TrustDesk_entry.2.1 18 = .ok (.if_icmp .lt 5, 3) := by decide +kernel
theorem d_TrustDesk_entry_23 : decode kY_TrustDesk_entry.2.1 23 = .ok (.iload_n 1, 1) := by decide +kernel
theorem d_TrustDesk_entry_24 : decode kY_TrustDesk_entry.2.1 24 = .ok (.iconst 4, 1) := by decide +kernel
theorem d_TrustDesk_entry_25 : decode kY_TrustDesk_entry.2.1 25 = .ok (.imul, 1) := by decide +kernel
theorem d_TrustDesk_entry_26 : decode kY_TrustDesk_entry.2.1 26 = .ok (.iload_n 2, 1) := by decide +kernel
theorem d_TrustDesk_entry_27 : decode kY_TrustDesk_entry.2.1 27 = .ok (.iadd, 1) := by decide +kernel
theorem d_TrustDesk_entry_28 : decode kY_TrustDesk_entry.2.1 28 = .ok (.istore_n 3, 1) := by decide +kernel
theorem d_TrustDesk_entry_29 : decode kY_TrustDesk_entry.2.1 29 = .ok (.iload_n 3, 1) := by decide +kernel
theorem d_TrustDesk_entry_30 : decode kY_TrustDesk_entry.2.1 30 = .ok (.ifCond .lt 21, 3) := by decide +kernel
theorem d_TrustDesk_entry_51 : decode kY_TrustDesk_entry.2.1 51 = .ok (.iconst (-1), 1) := by decide +kernel
theorem d_TrustDesk_entry_52 : decode kY_TrustDesk_entry.2.1 52 = .ok (.ireturn, 1) := by decide +kernel
theorem d_TrustDesk_entry_33 : decode kY_TrustDesk_entry.2.1 33 = .ok (.iload_n 3, 1) := by decide +kernel
theorem d_TrustDesk_entry_34 : decode kY_TrustDesk_entry.2.1 34 = .ok (.aload_n 0, 1) := by decide +kernel
theorem d_TrustDesk_entry_35 : decode kY_TrustDesk_entry.2.1 35 = .ok (.getfield 62, 3) := by decide +kernel
theorem f_TrustDesk_62_12 : mj_fl "TrustDesk" 62 12 9 := ⟨kR_TrustDesk, kF_TrustDesk, 13, "TrustDesk", rfl, kg_12, by decide, (mj_in1 (List.mem_of_getElem? (i := 276) (by decide +kernel)) rfl), Or.inl rfl⟩
theorem d_TrustDesk_entry_38 : decode kY_TrustDesk_entry.2.1 38 = .ok (.arraylength, 1) := by decide +kernel
theorem d_TrustDesk_entry_39 : decode kY_TrustDesk_entry.2.1 39 = .ok (.if_icmp .ge 12, 3) := by decide +kernel
theorem d_TrustDesk_entry_42 : decode kY_TrustDesk_entry.2.1 42 = .ok (.aload_n 0, 1) := by decide +kernel
theorem d_TrustDesk_entry_43 : decode kY_TrustDesk_entry.2.1 43 = .ok (.getfield 62, 3) := by decide +kernel
theorem d_TrustDesk_entry_46 : decode kY_TrustDesk_entry.2.1 46 = .ok (.iload_n 3, 1) := by decide +kernel
theorem d_TrustDesk_entry_47 : decode kY_TrustDesk_entry.2.1 47 = .ok (.iaload, 1) := by decide +kernel
theorem d_TrustDesk_entry_48 : decode kY_TrustDesk_entry.2.1 48 = .ok (.goto 4, 3) := by decide +kernel
def w_TrustDesk_entry : List Nat := []
theorem tc_TrustDesk_entry {g : mj_G} {l : Launch} {d : Nat} {T0 : tm_H} {M0 : mj_M} {n0 x9 : Nat} {o0 : Nat} {x1 : Int32} {x2 : Int32} (h_o0 : T0 o0 = some (0, 12, 0)) (I0 : tm_I tm_FT (tm_in w_TrustDesk_entry) x9 T0 M0 n0 T0 M0 n0) : mj_Met g l kY_TrustDesk_entry d [.ref o0, .int x1, .int x2] M0 n0 0 0 (tm_Q tm_FT (tm_in w_TrustDesk_entry) x9 T0 M0 n0 (fun r _ _ => ∃ v : Int32, r = some (.int v))) := by
  refine mj_enter (by decide) (Nat.le_of_ble_eq_true rfl) ?_
  refine mv_iload_n d_TrustDesk_entry_0 rfl rfl ?_
  have := mz_hi x1
  refine mv_if_ltZ (tgt := 21) (a := x1.toInt) d_TrustDesk_entry_1 (by decide) rfl (fun b1 => ?_) (fun b1 => ?_)
  · refine mv_iconst (v := (-1)) d_TrustDesk_entry_21 (by decide) ?_
    exact mv_iret d_TrustDesk_entry_22 rfl (by first | rfl | decide) ⟨_, I0, _, rfl⟩
  · refine mv_iload_n d_TrustDesk_entry_4 rfl rfl ?_
    refine mv_aload_n d_TrustDesk_entry_5 rfl rfl ?_
    obtain ⟨v3, q2⟩ := tm_atI I0 h_o0 (k := 10) rfl
    refine tr_getK q2 d_TrustDesk_entry_6 f_TrustDesk_254_12 ?_
    have := mz_hi x1
    have := mz_hi v3
    refine mv_icmp_geZ (tgt := 21) (a := x1.toInt) (b := v3.toInt) d_TrustDesk_entry_9 (by decide) rfl rfl (fun b4 => ?_) (fun b4 => ?_)
    · refine mv_iconst (v := (-1)) d_TrustDesk_entry_21 (by decide) ?_
      exact mv_iret d_TrustDesk_entry_22 rfl (by first | rfl | decide) ⟨_, I0, _, rfl⟩
    · refine mv_iload_n d_TrustDesk_entry_12 rfl rfl ?_
      have := mz_hi x2
      refine mv_if_ltZ (tgt := 21) (a := x2.toInt) d_TrustDesk_entry_13 (by decide) rfl (fun b5 => ?_) (fun b5 => ?_)
      · refine mv_iconst (v := (-1)) d_TrustDesk_entry_21 (by decide) ?_
        exact mv_iret d_TrustDesk_entry_22 rfl (by first | rfl | decide) ⟨_, I0, _, rfl⟩
      · refine mv_iload_n d_TrustDesk_entry_16 rfl rfl ?_
        refine mv_iconst (v := 4) d_TrustDesk_entry_17 (by decide) ?_
        have := mz_hi x2
        refine mv_icmp_ltZ (tgt := 23) (a := x2.toInt) (b := 4) d_TrustDesk_entry_18 (by decide) rfl (by decide) (fun b6 => ?_) (fun b6 => ?_)
        · refine mv_iload_n d_TrustDesk_entry_23 rfl rfl ?_
          refine mv_iconst (v := 4) d_TrustDesk_entry_24 (by decide) ?_
          refine mv_imul d_TrustDesk_entry_25 ?_
          refine mv_iload_n d_TrustDesk_entry_26 rfl rfl ?_
          refine mv_iadd d_TrustDesk_entry_27 ?_
          refine mv_istore_n (lv' := [(3, .int ((x1 * 4) + x2)), (0, .ref o0), (1, .int x1), (2, .int x2)]) d_TrustDesk_entry_28 rfl (by decide) rfl ?_
          refine mv_iload_n d_TrustDesk_entry_29 rfl rfl ?_
          have := mz_hi ((x1 * 4) + x2)
          refine mv_if_ltZ (tgt := 51) (a := ((x1 * 4) + x2).toInt) d_TrustDesk_entry_30 (by decide) rfl (fun b7 => ?_) (fun b7 => ?_)
          · refine mv_iconst (v := (-1)) d_TrustDesk_entry_51 (by decide) ?_
            exact mv_iret d_TrustDesk_entry_52 rfl (by first | rfl | decide) ⟨_, I0, _, rfl⟩
          · refine mv_iload_n d_TrustDesk_entry_33 rfl rfl ?_
            refine mv_aload_n d_TrustDesk_entry_34 rfl rfl ?_
            obtain ⟨a9, q8, t_a9⟩ := tm_atR I0 h_o0 (k := 9) rfl
            refine tr_getK q8 d_TrustDesk_entry_35 f_TrustDesk_62_12 ?_
            refine tr_alen (v := 2400) I0 t_a9 (by decide) (by decide) d_TrustDesk_entry_38 ?_
            have := mz_hi ((x1 * 4) + x2)
            refine mv_icmp_geZ (tgt := 51) (a := ((x1 * 4) + x2).toInt) (b := 2400) d_TrustDesk_entry_39 (by decide) rfl (by decide) (fun b10 => ?_) (fun b10 => ?_)
            · refine mv_iconst (v := (-1)) d_TrustDesk_entry_51 (by decide) ?_
              exact mv_iret d_TrustDesk_entry_52 rfl (by first | rfl | decide) ⟨_, I0, _, rfl⟩
            · refine mv_aload_n d_TrustDesk_entry_42 rfl rfl ?_
              refine tr_getK (k := 9) q8 d_TrustDesk_entry_43 f_TrustDesk_62_12 ?_
              refine mv_iload_n d_TrustDesk_entry_46 rfl rfl ?_
              refine tr_iald I0 t_a9 (by decide) d_TrustDesk_entry_47 (vp_in_iff.mpr (by omega)) (fun v11 => ?_)
              refine mv_goto (tgt := 52) d_TrustDesk_entry_48 (by decide) ?_
              exact mv_iret d_TrustDesk_entry_52 rfl (by first | rfl | decide) ⟨_, I0, _, rfl⟩
        · refine mv_iconst (v := (-1)) d_TrustDesk_entry_21 (by decide) ?_
          exact mv_iret d_TrustDesk_entry_22 rfl (by first | rfl | decide) ⟨_, I0, _, rfl⟩
abbrev kY_TrustDesk_fact : mj_Y := (⟨"TrustDesk", "fact", "(III)Z"⟩, prog_1_method_2_code, 4, (Option.some Jvm.ClassFile.FieldType.boolean))
theorem d_TrustDesk_fact_0 : decode kY_TrustDesk_fact.2.1 0 = .ok (.iload_n 1, 1) := by decide +kernel
theorem d_TrustDesk_fact_1 : decode kY_TrustDesk_fact.2.1 1 = .ok (.invokestatic 66, 3) := by decide +kernel
abbrev kY_TrustDesk_isFact : mj_Y := (⟨"TrustDesk", "isFact", "(I)Z"⟩, prog_1_method_65_code, 1, (Option.some Jvm.ClassFile.FieldType.boolean))
theorem d_TrustDesk_isFact_0 : decode kY_TrustDesk_isFact.2.1 0 = .ok (.iload_n 0, 1) := by decide +kernel
theorem d_TrustDesk_isFact_1 : decode kY_TrustDesk_isFact.2.1 1 = .ok (.ifCond .lt 13, 3) := by decide +kernel
theorem d_TrustDesk_isFact_14 : decode kY_TrustDesk_isFact.2.1 14 = .ok (.iconst 0, 1) := by decide +kernel
theorem d_TrustDesk_isFact_15 : decode kY_TrustDesk_isFact.2.1 15 = .ok (.ireturn, 1) := by decide +kernel
theorem d_TrustDesk_isFact_4 : decode kY_TrustDesk_isFact.2.1 4 = .ok (.iload_n 0, 1) := by decide +kernel
theorem d_TrustDesk_isFact_5 : decode kY_TrustDesk_isFact.2.1 5 = .ok (.bipush 8, 2) := by decide +kernel
theorem d_TrustDesk_isFact_7 : decode kY_TrustDesk_isFact.2.1 7 = .ok (.if_icmp .ge 7, 3) := by decide +kernel
theorem d_TrustDesk_isFact_10 : decode kY_TrustDesk_isFact.2.1 10 = .ok (.iconst 1, 1) := by decide +kernel
theorem d_TrustDesk_isFact_11 : decode kY_TrustDesk_isFact.2.1 11 = .ok (.goto 4, 3) := by decide +kernel
def w_TrustDesk_isFact : List Nat := []
theorem tc_TrustDesk_isFact {g : mj_G} {l : Launch} {d : Nat} {T0 : tm_H} {M0 : mj_M} {n0 x9 : Nat} {x1 : Int32} (I0 : tm_I tm_FT (tm_in w_TrustDesk_isFact) x9 T0 M0 n0 T0 M0 n0) : mj_Met g l kY_TrustDesk_isFact d [.int x1] M0 n0 0 0 (tm_Q tm_FT (tm_in w_TrustDesk_isFact) x9 T0 M0 n0 (fun r _ _ => ∃ v : Int32, r = some (.int v) ∧ 0 ≤ v.toInt ∧ v.toInt ≤ 1)) := by
  refine mj_enter (by decide) (Nat.le_of_ble_eq_true rfl) ?_
  refine mv_iload_n d_TrustDesk_isFact_0 rfl rfl ?_
  have := mz_hi x1
  refine mv_if_ltZ (tgt := 14) (a := x1.toInt) d_TrustDesk_isFact_1 (by decide) rfl (fun b1 => ?_) (fun b1 => ?_)
  · refine mv_iconst (v := 0) d_TrustDesk_isFact_14 (by decide) ?_
    exact mv_iret d_TrustDesk_isFact_15 rfl (by decide) ⟨_, I0, _, rfl, by decide, by decide⟩
  · refine mv_iload_n d_TrustDesk_isFact_4 rfl rfl ?_
    refine mv_bipush (v := 8) d_TrustDesk_isFact_5 (by decide) ?_
    have := mz_hi x1
    refine mv_icmp_geZ (tgt := 14) (a := x1.toInt) (b := 8) d_TrustDesk_isFact_7 (by decide) rfl (by decide) (fun b2 => ?_) (fun b2 => ?_)
    · refine mv_iconst (v := 0) d_TrustDesk_isFact_14 (by decide) ?_
      exact mv_iret d_TrustDesk_isFact_15 rfl (by decide) ⟨_, I0, _, rfl, by decide, by decide⟩
    · refine mv_iconst (v := 1) d_TrustDesk_isFact_10 (by decide) ?_
      refine mv_goto (tgt := 15) d_TrustDesk_isFact_11 (by decide) ?_
      exact mv_iret d_TrustDesk_isFact_15 rfl (by decide) ⟨_, I0, _, rfl, by decide, by decide⟩
theorem lS_TrustDesk_66 : mj_lS "TrustDesk" 66 kY_TrustDesk_isFact 1 := ⟨⟨(mj_in1 (List.mem_of_getElem? (i := 311) (by decide +kernel)) rfl), (mj_in1 (List.mem_of_getElem? (i := 1) (by decide +kernel)) rfl), (mj_in1 (List.mem_of_getElem? (i := 313) (by decide +kernel)) rfl), by decide, rfl, by decide⟩, (mj_in1 (List.mem_of_getElem? (i := 312) (by decide +kernel)) rfl)⟩
theorem d_TrustDesk_fact_4 : decode kY_TrustDesk_fact.2.1 4 = .ok (.ifCond .eq 21, 3) := by decide +kernel
theorem d_TrustDesk_fact_25 : decode kY_TrustDesk_fact.2.1 25 = .ok (.iconst 0, 1) := by decide +kernel
theorem d_TrustDesk_fact_26 : decode kY_TrustDesk_fact.2.1 26 = .ok (.ireturn, 1) := by decide +kernel
theorem d_TrustDesk_fact_7 : decode kY_TrustDesk_fact.2.1 7 = .ok (.iload_n 2, 1) := by decide +kernel
theorem d_TrustDesk_fact_8 : decode kY_TrustDesk_fact.2.1 8 = .ok (.invokestatic 70, 3) := by decide +kernel
theorem d_TrustDesk_fact_11 : decode kY_TrustDesk_fact.2.1 11 = .ok (.ifCond .eq 14, 3) := by decide +kernel
theorem d_TrustDesk_fact_14 : decode kY_TrustDesk_fact.2.1 14 = .ok (.iload_n 3, 1) := by decide +kernel
theorem d_TrustDesk_fact_15 : decode kY_TrustDesk_fact.2.1 15 = .ok (.ifCond .lt 10, 3) := by decide +kernel
theorem d_TrustDesk_fact_18 : decode kY_TrustDesk_fact.2.1 18 = .ok (.iload_n 3, 1) := by decide +kernel
theorem d_TrustDesk_fact_19 : decode kY_TrustDesk_fact.2.1 19 = .ok (.sipush 9999, 3) := by decide +kernel
theorem d_TrustDesk_fact_22 : decode kY_TrustDesk_fact.2.1 22 = .ok (.if_icmp .le 5, 3) := by decide +kernel
theorem d_TrustDesk_fact_27 : decode kY_TrustDesk_fact.2.1 27 = .ok (.aload_n 0, 1) := by decide +kernel
theorem d_TrustDesk_fact_28 : decode kY_TrustDesk_fact.2.1 28 = .ok (.getfield 10, 3) := by decide +kernel
theorem d_TrustDesk_fact_31 : decode kY_TrustDesk_fact.2.1 31 = .ok (.iload_n 1, 1) := by decide +kernel
theorem d_TrustDesk_fact_32 : decode kY_TrustDesk_fact.2.1 32 = .ok (.iload_n 2, 1) := by decide +kernel
theorem d_TrustDesk_fact_33 : decode kY_TrustDesk_fact.2.1 33 = .ok (.iload_n 3, 1) := by decide +kernel
theorem d_TrustDesk_fact_34 : decode kY_TrustDesk_fact.2.1 34 = .ok (.aload_n 0, 1) := by decide +kernel
theorem d_TrustDesk_fact_35 : decode kY_TrustDesk_fact.2.1 35 = .ok (.getfield 73, 3) := by decide +kernel
theorem d_TrustDesk_fact_38 : decode kY_TrustDesk_fact.2.1 38 = .ok (.invokevirtual 77, 3) := by decide +kernel
abbrev kY_Facts_tell : mj_Y := (⟨"TrustDesk$Facts", "tell", "(IIII)Z"⟩, prog_6_method_2_code, 6, (Option.some Jvm.ClassFile.FieldType.boolean))
theorem d_Facts_tell_0 : decode kY_Facts_tell.2.1 0 = .ok (.aload_n 0, 1) := by decide +kernel
theorem d_Facts_tell_1 : decode kY_Facts_tell.2.1 1 = .ok (.getfield 24, 3) := by decide +kernel
theorem f_Facts_24_5 : mj_fl "TrustDesk$Facts" 24 5 4 := ⟨kR_Facts, kF_Facts, 5, "TrustDesk$Facts", rfl, kg_5, by decide, (mj_in1 (List.mem_of_getElem? (i := 49) (by decide +kernel)) rfl), Or.inl rfl⟩
theorem d_Facts_tell_4 : decode kY_Facts_tell.2.1 4 = .ok (.istore 5, 2) := by decide +kernel
theorem d_Facts_tell_6 : decode kY_Facts_tell.2.1 6 = .ok (.iload 5, 2) := by decide +kernel
theorem d_Facts_tell_8 : decode kY_Facts_tell.2.1 8 = .ok (.ifCond .lt 11, 3) := by decide +kernel
theorem d_Facts_tell_19 : decode kY_Facts_tell.2.1 19 = .ok (.iconst 0, 1) := by decide +kernel
theorem d_Facts_tell_20 : decode kY_Facts_tell.2.1 20 = .ok (.ireturn, 1) := by decide +kernel
theorem d_Facts_tell_11 : decode kY_Facts_tell.2.1 11 = .ok (.iload 5, 2) := by decide +kernel
theorem d_Facts_tell_13 : decode kY_Facts_tell.2.1 13 = .ok (.sipush 300, 3) := by decide +kernel
theorem d_Facts_tell_16 : decode kY_Facts_tell.2.1 16 = .ok (.if_icmp .lt 5, 3) := by decide +kernel
theorem d_Facts_tell_21 : decode kY_Facts_tell.2.1 21 = .ok (.aload_n 0, 1) := by decide +kernel
theorem d_Facts_tell_22 : decode kY_Facts_tell.2.1 22 = .ok (.getfield 9, 3) := by decide +kernel
theorem f_Facts_9_5 : mj_fl "TrustDesk$Facts" 9 5 0 := ⟨kR_Facts, kF_Facts, 5, "TrustDesk$Facts", rfl, kg_5, by decide, (mj_in1 (List.mem_of_getElem? (i := 45) (by decide +kernel)) rfl), Or.inl rfl⟩
theorem d_Facts_tell_25 : decode kY_Facts_tell.2.1 25 = .ok (.iload 5, 2) := by decide +kernel
theorem d_Facts_tell_27 : decode kY_Facts_tell.2.1 27 = .ok (.iload_n 1, 1) := by decide +kernel
theorem d_Facts_tell_28 : decode kY_Facts_tell.2.1 28 = .ok (.iastore, 1) := by decide +kernel
theorem d_Facts_tell_29 : decode kY_Facts_tell.2.1 29 = .ok (.aload_n 0, 1) := by decide +kernel
theorem d_Facts_tell_30 : decode kY_Facts_tell.2.1 30 = .ok (.getfield 15, 3) := by decide +kernel
theorem f_Facts_15_5 : mj_fl "TrustDesk$Facts" 15 5 1 := ⟨kR_Facts, kF_Facts, 5, "TrustDesk$Facts", rfl, kg_5, by decide, (mj_in1 (List.mem_of_getElem? (i := 46) (by decide +kernel)) rfl), Or.inl rfl⟩
theorem d_Facts_tell_33 : decode kY_Facts_tell.2.1 33 = .ok (.iload 5, 2) := by decide +kernel
theorem d_Facts_tell_35 : decode kY_Facts_tell.2.1 35 = .ok (.iload_n 2, 1) := by decide +kernel
theorem d_Facts_tell_36 : decode kY_Facts_tell.2.1 36 = .ok (.iastore, 1) := by decide +kernel
theorem d_Facts_tell_37 : decode kY_Facts_tell.2.1 37 = .ok (.aload_n 0, 1) := by decide +kernel
theorem d_Facts_tell_38 : decode kY_Facts_tell.2.1 38 = .ok (.getfield 18, 3) := by decide +kernel
theorem f_Facts_18_5 : mj_fl "TrustDesk$Facts" 18 5 2 := ⟨kR_Facts, kF_Facts, 5, "TrustDesk$Facts", rfl, kg_5, by decide, (mj_in1 (List.mem_of_getElem? (i := 47) (by decide +kernel)) rfl), Or.inl rfl⟩
theorem d_Facts_tell_41 : decode kY_Facts_tell.2.1 41 = .ok (.iload 5, 2) := by decide +kernel
theorem d_Facts_tell_43 : decode kY_Facts_tell.2.1 43 = .ok (.iload_n 3, 1) := by decide +kernel
theorem d_Facts_tell_44 : decode kY_Facts_tell.2.1 44 = .ok (.iastore, 1) := by decide +kernel
theorem d_Facts_tell_45 : decode kY_Facts_tell.2.1 45 = .ok (.aload_n 0, 1) := by decide +kernel
theorem d_Facts_tell_46 : decode kY_Facts_tell.2.1 46 = .ok (.getfield 21, 3) := by decide +kernel
theorem f_Facts_21_5 : mj_fl "TrustDesk$Facts" 21 5 3 := ⟨kR_Facts, kF_Facts, 5, "TrustDesk$Facts", rfl, kg_5, by decide, (mj_in1 (List.mem_of_getElem? (i := 48) (by decide +kernel)) rfl), Or.inl rfl⟩
theorem d_Facts_tell_49 : decode kY_Facts_tell.2.1 49 = .ok (.iload 5, 2) := by decide +kernel
theorem d_Facts_tell_51 : decode kY_Facts_tell.2.1 51 = .ok (.iload 4, 2) := by decide +kernel
theorem d_Facts_tell_53 : decode kY_Facts_tell.2.1 53 = .ok (.iastore, 1) := by decide +kernel
theorem d_Facts_tell_54 : decode kY_Facts_tell.2.1 54 = .ok (.aload_n 0, 1) := by decide +kernel
theorem d_Facts_tell_55 : decode kY_Facts_tell.2.1 55 = .ok (.dup, 1) := by decide +kernel
theorem d_Facts_tell_56 : decode kY_Facts_tell.2.1 56 = .ok (.getfield 24, 3) := by decide +kernel
theorem d_Facts_tell_59 : decode kY_Facts_tell.2.1 59 = .ok (.iconst 1, 1) := by decide +kernel
theorem d_Facts_tell_60 : decode kY_Facts_tell.2.1 60 = .ok (.iadd, 1) := by decide +kernel
theorem d_Facts_tell_61 : decode kY_Facts_tell.2.1 61 = .ok (.putfield 24, 3) := by decide +kernel
theorem p_Facts_24_5 : mj_fp "TrustDesk$Facts" 24 5 4 (kt_Facts 4) false := ⟨kR_Facts, kF_Facts, 5, "TrustDesk$Facts", kt_Facts, rfl, kg_5, by decide, (mj_in1 (List.mem_of_getElem? (i := 49) (by decide +kernel)) rfl), Or.inl rfl, kto_Facts, kn_Facts, rfl, rfl, fun h => by cases h⟩
theorem d_Facts_tell_64 : decode kY_Facts_tell.2.1 64 = .ok (.iconst 1, 1) := by decide +kernel
theorem d_Facts_tell_65 : decode kY_Facts_tell.2.1 65 = .ok (.ireturn, 1) := by decide +kernel
def w_Facts_tell : List Nat := [504, 550, 551, 552, 553]
theorem tc_Facts_tell {g : mj_G} {l : Launch} {d : Nat} {T0 : tm_H} {M0 : mj_M} {n0 x9 : Nat} {o0 : Nat} {x1 : Int32} {x2 : Int32} {x3 : Int32} {x4 : Int32} (h_o0 : T0 o0 = some (0, 5, 0)) (I0 : tm_I tm_FT (tm_in w_Facts_tell) x9 T0 M0 n0 T0 M0 n0) : mj_Met g l kY_Facts_tell d [.ref o0, .int x1, .int x2, .int x3, .int x4] M0 n0 0 0 (tm_Q tm_FT (tm_in w_Facts_tell) x9 T0 M0 n0 (fun r _ _ => ∃ v : Int32, r = some (.int v) ∧ 0 ≤ v.toInt ∧ v.toInt ≤ 1)) := by
  refine mj_enter (by decide) (Nat.le_of_ble_eq_true rfl) ?_
  refine mv_aload_n d_Facts_tell_0 rfl rfl ?_
  obtain ⟨v2, q1⟩ := tm_atI I0 h_o0 (k := 4) rfl
  refine tr_getK q1 d_Facts_tell_1 f_Facts_24_5 ?_
  refine mv_istore (lv' := [(5, .int v2), (0, .ref o0), (1, .int x1), (2, .int x2), (3, .int x3), (4, .int x4)]) d_Facts_tell_4 (by decide) rfl ?_
  refine mv_iload d_Facts_tell_6 rfl ?_
  have := mz_hi v2
  refine mv_if_ltZ (tgt := 19) (a := v2.toInt) d_Facts_tell_8 (by decide) rfl (fun b3 => ?_) (fun b3 => ?_)
  · refine mv_iconst (v := 0) d_Facts_tell_19 (by decide) ?_
    exact mv_iret d_Facts_tell_20 rfl (by decide) ⟨_, I0, _, rfl, by decide, by decide⟩
  · refine mv_iload d_Facts_tell_11 rfl ?_
    refine mv_sipush (v := 300) d_Facts_tell_13 (by decide) ?_
    have := mz_hi v2
    refine mv_icmp_ltZ (tgt := 21) (a := v2.toInt) (b := 300) d_Facts_tell_16 (by decide) rfl (by decide) (fun b4 => ?_) (fun b4 => ?_)
    · refine mv_aload_n d_Facts_tell_21 rfl rfl ?_
      obtain ⟨a6, q5, t_a6⟩ := tm_atR I0 h_o0 (k := 0) rfl
      refine tr_getK q5 d_Facts_tell_22 f_Facts_9_5 ?_
      refine mv_iload d_Facts_tell_25 rfl ?_
      refine mv_iload_n d_Facts_tell_27 rfl rfl ?_
      refine tr_iastK tm_okF I0 t_a6 (by decide) (Or.inl (by decide)) d_Facts_tell_28 (vp_in_iff.mpr (by omega)) (fun M7 I8 K9 => ?_)
      refine mv_aload_n d_Facts_tell_29 rfl rfl ?_
      obtain ⟨a11, q10, t_a11⟩ := tm_atR I8 h_o0 (k := 1) rfl
      refine tr_getK q10 d_Facts_tell_30 f_Facts_15_5 ?_
      refine mv_iload d_Facts_tell_33 rfl ?_
      refine mv_iload_n d_Facts_tell_35 rfl rfl ?_
      refine tr_iastK tm_okF I8 t_a11 (by decide) (Or.inl (by decide)) d_Facts_tell_36 (vp_in_iff.mpr (by omega)) (fun M12 I13 K14 => ?_)
      refine mv_aload_n d_Facts_tell_37 rfl rfl ?_
      obtain ⟨a16, q15, t_a16⟩ := tm_atR I13 h_o0 (k := 2) rfl
      refine tr_getK q15 d_Facts_tell_38 f_Facts_18_5 ?_
      refine mv_iload d_Facts_tell_41 rfl ?_
      refine mv_iload_n d_Facts_tell_43 rfl rfl ?_
      refine tr_iastK tm_okF I13 t_a16 (by decide) (Or.inl (by decide)) d_Facts_tell_44 (vp_in_iff.mpr (by omega)) (fun M17 I18 K19 => ?_)
      refine mv_aload_n d_Facts_tell_45 rfl rfl ?_
      obtain ⟨a21, q20, t_a21⟩ := tm_atR I18 h_o0 (k := 3) rfl
      refine tr_getK q20 d_Facts_tell_46 f_Facts_21_5 ?_
      refine mv_iload d_Facts_tell_49 rfl ?_
      refine mv_iload d_Facts_tell_51 rfl ?_
      refine tr_iastK tm_okF I18 t_a21 (by decide) (Or.inl (by decide)) d_Facts_tell_53 (vp_in_iff.mpr (by omega)) (fun M22 I23 K24 => ?_)
      refine mv_aload_n d_Facts_tell_54 rfl rfl ?_
      refine mv_dup d_Facts_tell_55 rfl ?_
      refine tr_getK (k := 4) (K24 _ 5 4 _ (K19 _ 5 4 _ (K14 _ 5 4 _ (K9 _ 5 4 _ q1)))) d_Facts_tell_56 f_Facts_24_5 ?_
      refine mv_iconst (v := 1) d_Facts_tell_59 (by decide) ?_
      refine mv_iadd d_Facts_tell_60 ?_
      refine tr_putK tm_okF I23 h_o0 (k := 4) rfl ⟨_, rfl⟩ (Or.inl (by decide)) d_Facts_tell_61 p_Facts_24_5 rfl rfl (fun M25 I26 q27 K28 => ?_)
      refine mv_iconst (v := 1) d_Facts_tell_64 (by decide) ?_
      exact mv_iret d_Facts_tell_65 rfl (by decide) ⟨_, I26, _, rfl, by decide, by decide⟩
    · refine mv_iconst (v := 0) d_Facts_tell_19 (by decide) ?_
      exact mv_iret d_Facts_tell_20 rfl (by decide) ⟨_, I0, _, rfl, by decide, by decide⟩
theorem lV_TrustDesk_77 : mj_lV "TrustDesk" 77 kY_Facts_tell 4 := ⟨⟨(mj_in1 (List.mem_of_getElem? (i := 317) (by decide +kernel)) rfl), (mj_in1 (List.mem_of_getElem? (i := 2) (by decide +kernel)) rfl), (mj_in1 (List.mem_of_getElem? (i := 320) (by decide +kernel)) rfl), by decide, rfl, by decide⟩, (mj_in1 (List.mem_of_getElem? (i := 318) (by decide +kernel)) rfl), (mj_in1 (List.mem_of_getElem? (i := 319) (by decide +kernel)) rfl)⟩
theorem d_TrustDesk_fact_41 : decode kY_TrustDesk_fact.2.1 41 = .ok (.ireturn, 1) := by decide +kernel
def w_TrustDesk_fact : List Nat := [504, 550, 551, 552, 553]
theorem tc_TrustDesk_fact {g : mj_G} {l : Launch} {d : Nat} {T0 : tm_H} {M0 : mj_M} {n0 x9 : Nat} {o0 : Nat} {x1 : Int32} {x2 : Int32} {x3 : Int32} (h_o0 : T0 o0 = some (0, 12, 0)) (I0 : tm_I tm_FT (tm_in w_TrustDesk_fact) x9 T0 M0 n0 T0 M0 n0) : mj_Met g l kY_TrustDesk_fact (d + 1) [.ref o0, .int x1, .int x2, .int x3] M0 n0 0 0 (tm_Q tm_FT (tm_in w_TrustDesk_fact) x9 T0 M0 n0 (fun r _ _ => ∃ v : Int32, r = some (.int v) ∧ 0 ≤ v.toInt ∧ v.toInt ≤ 1)) := by
  refine mj_enter (by decide) (Nat.le_of_ble_eq_true rfl) ?_
  refine mv_iload_n d_TrustDesk_fact_0 rfl rfl ?_
  refine mv_callS (kc' := 0) (ks' := 0) (As := [.int x1]) (st9 := [.int x1]) d_TrustDesk_fact_1 lS_TrustDesk_66 (tc_TrustDesk_isFact (d := d) (x9 := x9) (x1 := x1)  I0.start) rfl (Nat.le_of_ble_eq_true rfl) (Nat.le_of_ble_eq_true rfl) (Nat.le_of_ble_eq_true rfl) (hst := rfl) (fun b1r M2 n3 b1 => ?_)
  obtain ⟨T4, J5, v7, rfl, b8, b9⟩ := b1
  have I6 := I0.call J5 (tm_sub (by decide)) (Or.inl rfl)
  have t10 := J5.up h_o0
  have := mz_hi v7
  refine mv_if_eqZ (tgt := 25) (a := v7.toInt) d_TrustDesk_fact_4 (by decide) rfl (fun b11 => ?_) (fun b11 => ?_)
  · refine mv_iconst (v := 0) d_TrustDesk_fact_25 (by decide) ?_
    exact mv_iret d_TrustDesk_fact_26 rfl (by decide) ⟨_, I6, _, rfl, by decide, by decide⟩
  · refine mv_iload_n d_TrustDesk_fact_7 rfl rfl ?_
    refine mv_callS (kc' := 0) (ks' := 0) (As := [.int x2]) (st9 := [.int x2]) d_TrustDesk_fact_8 lS_TrustDesk_70 (tc_TrustDesk_isYear (d := d) (x9 := x9) (x1 := x2)  I6.start) rfl (Nat.le_of_ble_eq_true rfl) (Nat.le_of_ble_eq_true rfl) (Nat.le_of_ble_eq_true rfl) (hst := rfl) (fun b12r M13 n14 b12 => ?_)
    obtain ⟨T15, J16, v18, rfl, b19, b20⟩ := b12
    have I17 := I6.call J16 (tm_sub (by decide)) (Or.inl rfl)
    have t21 := J16.up t10
    have := mz_hi v18
    refine mv_if_eqZ (tgt := 25) (a := v18.toInt) d_TrustDesk_fact_11 (by decide) rfl (fun b22 => ?_) (fun b22 => ?_)
    · refine mv_iconst (v := 0) d_TrustDesk_fact_25 (by decide) ?_
      exact mv_iret d_TrustDesk_fact_26 rfl (by decide) ⟨_, I17, _, rfl, by decide, by decide⟩
    · refine mv_iload_n d_TrustDesk_fact_14 rfl rfl ?_
      have := mz_hi x3
      refine mv_if_ltZ (tgt := 25) (a := x3.toInt) d_TrustDesk_fact_15 (by decide) rfl (fun b23 => ?_) (fun b23 => ?_)
      · refine mv_iconst (v := 0) d_TrustDesk_fact_25 (by decide) ?_
        exact mv_iret d_TrustDesk_fact_26 rfl (by decide) ⟨_, I17, _, rfl, by decide, by decide⟩
      · refine mv_iload_n d_TrustDesk_fact_18 rfl rfl ?_
        refine mv_sipush (v := 9999) d_TrustDesk_fact_19 (by decide) ?_
        have := mz_hi x3
        refine mv_icmp_leZ (tgt := 27) (a := x3.toInt) (b := 9999) d_TrustDesk_fact_22 (by decide) rfl (by decide) (fun b24 => ?_) (fun b24 => ?_)
        · refine mv_aload_n d_TrustDesk_fact_27 rfl rfl ?_
          obtain ⟨a26, q25, t_a26⟩ := tm_atR I17 t21 (k := 0) rfl
          refine tr_getK q25 d_TrustDesk_fact_28 f_TrustDesk_10_12 ?_
          refine mv_iload_n d_TrustDesk_fact_31 rfl rfl ?_
          refine mv_iload_n d_TrustDesk_fact_32 rfl rfl ?_
          refine mv_iload_n d_TrustDesk_fact_33 rfl rfl ?_
          refine mv_aload_n d_TrustDesk_fact_34 rfl rfl ?_
          obtain ⟨v28, q27⟩ := tm_atI I17 t21 (k := 12) rfl
          refine tr_getK q27 d_TrustDesk_fact_35 f_TrustDesk_73_12 ?_
          obtain ⟨_, b35, -⟩ := I17.1 _ _ t_a26
          refine mv_callV (kc' := 0) (ks' := 0) (As := [.int x1, .int x2, .int x3, .int v28]) (st9 := [.int v28, .int x3, .int x2, .int x1, .ref a26]) d_TrustDesk_fact_38 lV_TrustDesk_77 b35 rfl (tc_Facts_tell (d := d) (x9 := x9) (o0 := a26) (x1 := x1) (x2 := x2) (x3 := x3) (x4 := v28) t_a26 I17.start) rfl (Nat.le_of_ble_eq_true rfl) (Nat.le_of_ble_eq_true rfl) (Nat.le_of_ble_eq_true rfl) (hst := rfl) (fun b29r M30 n31 b29 => ?_)
          obtain ⟨T32, J33, v36, rfl, b37, b38⟩ := b29
          have I34 := I17.call J33 (tm_sub (by decide)) (Or.inl rfl)
          have t39 := J33.up t21
          have q40 := J33.keep t21 (by decide) q25
          have t41 := J33.up t_a26
          have q42 := J33.keep t21 (by decide) q27
          exact mv_iret d_TrustDesk_fact_41 rfl (mz_nb (by omega) (by omega)) ⟨_, I34, _, rfl, by omega, by omega⟩
        · refine mv_iconst (v := 0) d_TrustDesk_fact_25 (by decide) ?_
          exact mv_iret d_TrustDesk_fact_26 rfl (by decide) ⟨_, I17, _, rfl, by decide, by decide⟩
abbrev kY_TrustDesk_factOf : mj_Y := (⟨"TrustDesk", "factOf", "(III)I"⟩, prog_1_method_3_code, 4, (Option.some Jvm.ClassFile.FieldType.int))
theorem d_TrustDesk_factOf_0 : decode kY_TrustDesk_factOf.2.1 0 = .ok (.iload_n 1, 1) := by decide +kernel
theorem d_TrustDesk_factOf_1 : decode kY_TrustDesk_factOf.2.1 1 = .ok (.invokestatic 66, 3) := by decide +kernel
theorem d_TrustDesk_factOf_4 : decode kY_TrustDesk_factOf.2.1 4 = .ok (.ifCond .eq 18, 3) := by decide +kernel
theorem d_TrustDesk_factOf_22 : decode kY_TrustDesk_factOf.2.1 22 = .ok (.iconst (-1), 1) := by decide +kernel
theorem d_TrustDesk_factOf_23 : decode kY_TrustDesk_factOf.2.1 23 = .ok (.ireturn, 1) := by decide +kernel
theorem d_TrustDesk_factOf_7 : decode kY_TrustDesk_factOf.2.1 7 = .ok (.iload_n 2, 1) := by decide +kernel
theorem d_TrustDesk_factOf_8 : decode kY_TrustDesk_factOf.2.1 8 = .ok (.invokestatic 70, 3) := by decide +kernel
theorem d_TrustDesk_factOf_11 : decode kY_TrustDesk_factOf.2.1 11 = .ok (.ifCond .eq 11, 3) := by decide +kernel
theorem d_TrustDesk_factOf_14 : decode kY_TrustDesk_factOf.2.1 14 = .ok (.aload_n 0, 1) := by decide +kernel
theorem d_TrustDesk_factOf_15 : decode kY_TrustDesk_factOf.2.1 15 = .ok (.iload_n 3, 1) := by decide +kernel
theorem d_TrustDesk_factOf_16 : decode kY_TrustDesk_factOf.2.1 16 = .ok (.invokevirtual 81, 3) := by decide +kernel
abbrev kY_TrustDesk_isKnown : mj_Y := (⟨"TrustDesk", "isKnown", "(I)Z"⟩, prog_1_method_69_code, 2, (Option.some Jvm.ClassFile.FieldType.boolean))
theorem d_TrustDesk_isKnown_0 : decode kY_TrustDesk_isKnown.2.1 0 = .ok (.iload_n 1, 1) := by decide +kernel
theorem d_TrustDesk_isKnown_1 : decode kY_TrustDesk_isKnown.2.1 1 = .ok (.ifCond .lt 15, 3) := by decide +kernel
theorem d_TrustDesk_isKnown_16 : decode kY_TrustDesk_isKnown.2.1 16 = .ok (.iconst 0, 1) := by decide +kernel
theorem d_TrustDesk_isKnown_17 : decode kY_TrustDesk_isKnown.2.1 17 = .ok (.ireturn, 1) := by decide +kernel
theorem d_TrustDesk_isKnown_4 : decode kY_TrustDesk_isKnown.2.1 4 = .ok (.iload_n 1, 1) := by decide +kernel
theorem d_TrustDesk_isKnown_5 : decode kY_TrustDesk_isKnown.2.1 5 = .ok (.aload_n 0, 1) := by decide +kernel
theorem d_TrustDesk_isKnown_6 : decode kY_TrustDesk_isKnown.2.1 6 = .ok (.getfield 73, 3) := by decide +kernel
theorem d_TrustDesk_isKnown_9 : decode kY_TrustDesk_isKnown.2.1 9 = .ok (.if_icmp .gt 7, 3) := by decide +kernel
theorem d_TrustDesk_isKnown_12 : decode kY_TrustDesk_isKnown.2.1 12 = .ok (.iconst 1, 1) := by decide +kernel
theorem d_TrustDesk_isKnown_13 : decode kY_TrustDesk_isKnown.2.1 13 = .ok (.goto 4, 3) := by decide +kernel
def w_TrustDesk_isKnown : List Nat := []
theorem tc_TrustDesk_isKnown {g : mj_G} {l : Launch} {d : Nat} {T0 : tm_H} {M0 : mj_M} {n0 x9 : Nat} {o0 : Nat} {x1 : Int32} (h_o0 : T0 o0 = some (0, 12, 0)) (I0 : tm_I tm_FT (tm_in w_TrustDesk_isKnown) x9 T0 M0 n0 T0 M0 n0) : mj_Met g l kY_TrustDesk_isKnown d [.ref o0, .int x1] M0 n0 0 0 (tm_Q tm_FT (tm_in w_TrustDesk_isKnown) x9 T0 M0 n0 (fun r _ _ => ∃ v : Int32, r = some (.int v) ∧ 0 ≤ v.toInt ∧ v.toInt ≤ 1)) := by
  refine mj_enter (by decide) (Nat.le_of_ble_eq_true rfl) ?_
  refine mv_iload_n d_TrustDesk_isKnown_0 rfl rfl ?_
  have := mz_hi x1
  refine mv_if_ltZ (tgt := 16) (a := x1.toInt) d_TrustDesk_isKnown_1 (by decide) rfl (fun b1 => ?_) (fun b1 => ?_)
  · refine mv_iconst (v := 0) d_TrustDesk_isKnown_16 (by decide) ?_
    exact mv_iret d_TrustDesk_isKnown_17 rfl (by decide) ⟨_, I0, _, rfl, by decide, by decide⟩
  · refine mv_iload_n d_TrustDesk_isKnown_4 rfl rfl ?_
    refine mv_aload_n d_TrustDesk_isKnown_5 rfl rfl ?_
    obtain ⟨v3, q2⟩ := tm_atI I0 h_o0 (k := 12) rfl
    refine tr_getK q2 d_TrustDesk_isKnown_6 f_TrustDesk_73_12 ?_
    have := mz_hi x1
    have := mz_hi v3
    refine mv_icmp_gtZ (tgt := 16) (a := x1.toInt) (b := v3.toInt) d_TrustDesk_isKnown_9 (by decide) rfl rfl (fun b4 => ?_) (fun b4 => ?_)
    · refine mv_iconst (v := 0) d_TrustDesk_isKnown_16 (by decide) ?_
      exact mv_iret d_TrustDesk_isKnown_17 rfl (by decide) ⟨_, I0, _, rfl, by decide, by decide⟩
    · refine mv_iconst (v := 1) d_TrustDesk_isKnown_12 (by decide) ?_
      refine mv_goto (tgt := 17) d_TrustDesk_isKnown_13 (by decide) ?_
      exact mv_iret d_TrustDesk_isKnown_17 rfl (by decide) ⟨_, I0, _, rfl, by decide, by decide⟩
theorem lV_TrustDesk_81 : mj_lV "TrustDesk" 81 kY_TrustDesk_isKnown 1 := ⟨⟨(mj_in1 (List.mem_of_getElem? (i := 325) (by decide +kernel)) rfl), (mj_in1 (List.mem_of_getElem? (i := 1) (by decide +kernel)) rfl), (mj_in1 (List.mem_of_getElem? (i := 328) (by decide +kernel)) rfl), by decide, rfl, by decide⟩, (mj_in1 (List.mem_of_getElem? (i := 327) (by decide +kernel)) rfl), (mj_in (List.mem_append_left _ (List.mem_of_getElem? (i := 0) (by decide +kernel))) rfl)⟩
theorem d_TrustDesk_factOf_19 : decode kY_TrustDesk_factOf.2.1 19 = .ok (.ifCond .ne 5, 3) := by decide +kernel
theorem d_TrustDesk_factOf_24 : decode kY_TrustDesk_factOf.2.1 24 = .ok (.aload_n 0, 1) := by decide +kernel
theorem d_TrustDesk_factOf_25 : decode kY_TrustDesk_factOf.2.1 25 = .ok (.getfield 10, 3) := by decide +kernel
theorem d_TrustDesk_factOf_28 : decode kY_TrustDesk_factOf.2.1 28 = .ok (.iload_n 1, 1) := by decide +kernel
theorem d_TrustDesk_factOf_29 : decode kY_TrustDesk_factOf.2.1 29 = .ok (.iload_n 2, 1) := by decide +kernel
theorem d_TrustDesk_factOf_30 : decode kY_TrustDesk_factOf.2.1 30 = .ok (.iload_n 3, 1) := by decide +kernel
theorem d_TrustDesk_factOf_31 : decode kY_TrustDesk_factOf.2.1 31 = .ok (.invokevirtual 84, 3) := by decide +kernel
abbrev kY_Facts_asKnown : mj_Y := (⟨"TrustDesk$Facts", "asKnown", "(III)I"⟩, prog_6_method_3_code, 7, (Option.some Jvm.ClassFile.FieldType.int))
theorem d_Facts_asKnown_0 : decode kY_Facts_asKnown.2.1 0 = .ok (.iconst (-1), 1) := by decide +kernel
theorem d_Facts_asKnown_1 : decode kY_Facts_asKnown.2.1 1 = .ok (.istore 4, 2) := by decide +kernel
theorem d_Facts_asKnown_3 : decode kY_Facts_asKnown.2.1 3 = .ok (.iconst 0, 1) := by decide +kernel
theorem d_Facts_asKnown_4 : decode kY_Facts_asKnown.2.1 4 = .ok (.istore 5, 2) := by decide +kernel
theorem d_Facts_asKnown_6 : decode kY_Facts_asKnown.2.1 6 = .ok (.iconst 0, 1) := by decide +kernel
theorem d_Facts_asKnown_7 : decode kY_Facts_asKnown.2.1 7 = .ok (.istore 6, 2) := by decide +kernel
theorem d_Facts_asKnown_9 : decode kY_Facts_asKnown.2.1 9 = .ok (.iload 6, 2) := by decide +kernel
theorem d_Facts_asKnown_11 : decode kY_Facts_asKnown.2.1 11 = .ok (.aload_n 0, 1) := by decide +kernel
theorem d_Facts_asKnown_12 : decode kY_Facts_asKnown.2.1 12 = .ok (.getfield 24, 3) := by decide +kernel
theorem d_Facts_asKnown_15 : decode kY_Facts_asKnown.2.1 15 = .ok (.if_icmp .ge 80, 3) := by decide +kernel
theorem d_Facts_asKnown_95 : decode kY_Facts_asKnown.2.1 95 = .ok (.iload 5, 2) := by decide +kernel
theorem d_Facts_asKnown_97 : decode kY_Facts_asKnown.2.1 97 = .ok (.ireturn, 1) := by decide +kernel
theorem d_Facts_asKnown_18 : decode kY_Facts_asKnown.2.1 18 = .ok (.iload 6, 2) := by decide +kernel
theorem d_Facts_asKnown_20 : decode kY_Facts_asKnown.2.1 20 = .ok (.sipush 300, 3) := by decide +kernel
theorem d_Facts_asKnown_23 : decode kY_Facts_asKnown.2.1 23 = .ok (.if_icmp .ge 72, 3) := by decide +kernel
theorem d_Facts_asKnown_26 : decode kY_Facts_asKnown.2.1 26 = .ok (.aload_n 0, 1) := by decide +kernel
theorem d_Facts_asKnown_27 : decode kY_Facts_asKnown.2.1 27 = .ok (.getfield 21, 3) := by decide +kernel
theorem d_Facts_asKnown_30 : decode kY_Facts_asKnown.2.1 30 = .ok (.iload 6, 2) := by decide +kernel
theorem d_Facts_asKnown_32 : decode kY_Facts_asKnown.2.1 32 = .ok (.iaload, 1) := by decide +kernel
theorem d_Facts_asKnown_33 : decode kY_Facts_asKnown.2.1 33 = .ok (.iload_n 3, 1) := by decide +kernel
theorem d_Facts_asKnown_34 : decode kY_Facts_asKnown.2.1 34 = .ok (.if_icmp .gt 61, 3) := by decide +kernel
theorem d_Facts_asKnown_37 : decode kY_Facts_asKnown.2.1 37 = .ok (.aload_n 0, 1) := by decide +kernel
theorem d_Facts_asKnown_38 : decode kY_Facts_asKnown.2.1 38 = .ok (.getfield 9, 3) := by decide +kernel
theorem d_Facts_asKnown_41 : decode kY_Facts_asKnown.2.1 41 = .ok (.iload 6, 2) := by decide +kernel
theorem d_Facts_asKnown_43 : decode kY_Facts_asKnown.2.1 43 = .ok (.iaload, 1) := by decide +kernel
theorem d_Facts_asKnown_44 : decode kY_Facts_asKnown.2.1 44 = .ok (.iload_n 1, 1) := by decide +kernel
theorem d_Facts_asKnown_45 : decode kY_Facts_asKnown.2.1 45 = .ok (.if_icmp .ne 44, 3) := by decide +kernel
theorem d_Facts_asKnown_89 : decode kY_Facts_asKnown.2.1 89 = .ok (.iinc 6 1, 3) := by decide +kernel
theorem d_Facts_asKnown_92 : decode kY_Facts_asKnown.2.1 92 = .ok (.goto (-83), 3) := by decide +kernel
theorem d_Facts_asKnown_48 : decode kY_Facts_asKnown.2.1 48 = .ok (.aload_n 0, 1) := by decide +kernel
theorem d_Facts_asKnown_49 : decode kY_Facts_asKnown.2.1 49 = .ok (.getfield 15, 3) := by decide +kernel
theorem d_Facts_asKnown_52 : decode kY_Facts_asKnown.2.1 52 = .ok (.iload 6, 2) := by decide +kernel
theorem d_Facts_asKnown_54 : decode kY_Facts_asKnown.2.1 54 = .ok (.iaload, 1) := by decide +kernel
theorem d_Facts_asKnown_55 : decode kY_Facts_asKnown.2.1 55 = .ok (.iload_n 2, 1) := by decide +kernel
theorem d_Facts_asKnown_56 : decode kY_Facts_asKnown.2.1 56 = .ok (.if_icmp .gt 33, 3) := by decide +kernel
theorem d_Facts_asKnown_59 : decode kY_Facts_asKnown.2.1 59 = .ok (.aload_n 0, 1) := by decide +kernel
theorem d_Facts_asKnown_60 : decode kY_Facts_asKnown.2.1 60 = .ok (.getfield 15, 3) := by decide +kernel
theorem d_Facts_asKnown_63 : decode kY_Facts_asKnown.2.1 63 = .ok (.iload 6, 2) := by decide +kernel
theorem d_Facts_asKnown_65 : decode kY_Facts_asKnown.2.1 65 = .ok (.iaload, 1) := by decide +kernel
theorem d_Facts_asKnown_66 : decode kY_Facts_asKnown.2.1 66 = .ok (.iload 4, 2) := by decide +kernel
theorem d_Facts_asKnown_68 : decode kY_Facts_asKnown.2.1 68 = .ok (.if_icmp .lt 21, 3) := by decide +kernel
theorem d_Facts_asKnown_71 : decode kY_Facts_asKnown.2.1 71 = .ok (.aload_n 0, 1) := by decide +kernel
theorem d_Facts_asKnown_72 : decode kY_Facts_asKnown.2.1 72 = .ok (.getfield 15, 3) := by decide +kernel
theorem d_Facts_asKnown_75 : decode kY_Facts_asKnown.2.1 75 = .ok (.iload 6, 2) := by decide +kernel
theorem d_Facts_asKnown_77 : decode kY_Facts_asKnown.2.1 77 = .ok (.iaload, 1) := by decide +kernel
theorem d_Facts_asKnown_78 : decode kY_Facts_asKnown.2.1 78 = .ok (.istore 4, 2) := by decide +kernel
theorem d_Facts_asKnown_80 : decode kY_Facts_asKnown.2.1 80 = .ok (.aload_n 0, 1) := by decide +kernel
theorem d_Facts_asKnown_81 : decode kY_Facts_asKnown.2.1 81 = .ok (.getfield 18, 3) := by decide +kernel
theorem d_Facts_asKnown_84 : decode kY_Facts_asKnown.2.1 84 = .ok (.iload 6, 2) := by decide +kernel
theorem d_Facts_asKnown_86 : decode kY_Facts_asKnown.2.1 86 = .ok (.iaload, 1) := by decide +kernel
theorem d_Facts_asKnown_87 : decode kY_Facts_asKnown.2.1 87 = .ok (.istore 5, 2) := by decide +kernel
def w_Facts_asKnown : List Nat := []
theorem tc_Facts_asKnown {g : mj_G} {l : Launch} {d : Nat} {T0 : tm_H} {M0 : mj_M} {n0 x9 : Nat} {o0 : Nat} {x1 : Int32} {x2 : Int32} {x3 : Int32} (h_o0 : T0 o0 = some (0, 5, 0)) (I0 : tm_I tm_FT (tm_in w_Facts_asKnown) x9 T0 M0 n0 T0 M0 n0) : mj_Met g l kY_Facts_asKnown d [.ref o0, .int x1, .int x2, .int x3] M0 n0 0 0 (tm_Q tm_FT (tm_in w_Facts_asKnown) x9 T0 M0 n0 (fun r _ _ => ∃ v : Int32, r = some (.int v))) := by
  refine mj_enter (by decide) (Nat.le_of_ble_eq_true rfl) ?_
  refine mv_iconst (v := (-1)) d_Facts_asKnown_0 (by decide) ?_
  refine mv_istore (lv' := [(4, .int (-1)), (0, .ref o0), (1, .int x1), (2, .int x2), (3, .int x3)]) d_Facts_asKnown_1 (by decide) rfl ?_
  refine mv_iconst (v := 0) d_Facts_asKnown_3 (by decide) ?_
  refine mv_istore (lv' := [(5, .int 0), (4, .int (-1)), (0, .ref o0), (1, .int x1), (2, .int x2), (3, .int x3)]) d_Facts_asKnown_4 (by decide) rfl ?_
  refine mv_iconst (v := 0) d_Facts_asKnown_6 (by decide) ?_
  refine mv_istore (lv' := [(6, .int 0), (5, .int 0), (4, .int (-1)), (0, .ref o0), (1, .int x1), (2, .int x2), (3, .int x3)]) d_Facts_asKnown_7 (by decide) rfl ?_
  have L9_1 : ∀ (k : Nat) (i6_1 : Int32) (i5_1 : Int32) (i4_1 : Int32) (T_1 : tm_H) (M_1 : mj_M) (n_1 : Nat), tm_I tm_FT (tm_in w_Facts_asKnown) x9 T0 M0 n0 T_1 M_1 n_1 → T_1 o0 = some (0, 5, 0) → 0 ≤ i6_1.toInt → 2147483647 - i6_1.toInt < (k : Int) → mj_V g l kY_Facts_asKnown d 9 [(6, .int i6_1), (5, .int i5_1), (4, .int i4_1), (0, .ref o0), (1, .int x1), (2, .int x2), (3, .int x3)] [] M_1 n_1 0 0 (tm_Q tm_FT (tm_in w_Facts_asKnown) x9 T0 M0 n0 (fun r _ _ => ∃ v : Int32, r = some (.int v))) := by
    intro k1
    induction k1 with
    | zero =>
      intro i6_1 i5_1 i4_1 T_1 M_1 n_1 I_1 h_q0_1 iv0_1 hk1
      have := mz_hi i6_1
      omega
    | succ k1 ih1 =>
      intro i6_1 i5_1 i4_1 T_1 M_1 n_1 I_1 h_q0_1 iv0_1 hk1
      refine mv_iload d_Facts_asKnown_9 rfl ?_
      refine mv_aload_n d_Facts_asKnown_11 rfl rfl ?_
      obtain ⟨v3, q2⟩ := tm_atI I_1 h_q0_1 (k := 4) rfl
      refine tr_getK q2 d_Facts_asKnown_12 f_Facts_24_5 ?_
      have := mz_hi i6_1
      have := mz_hi v3
      refine mv_icmp_geZ (tgt := 95) (a := i6_1.toInt) (b := v3.toInt) d_Facts_asKnown_15 (by decide) rfl rfl (fun b4 => ?_) (fun b4 => ?_)
      · refine mv_iload d_Facts_asKnown_95 rfl ?_
        exact mv_iret d_Facts_asKnown_97 rfl (by first | rfl | decide) ⟨_, I_1, _, rfl⟩
      · refine mv_iload d_Facts_asKnown_18 rfl ?_
        refine mv_sipush (v := 300) d_Facts_asKnown_20 (by decide) ?_
        have := mz_hi i6_1
        refine mv_icmp_geZ (tgt := 95) (a := i6_1.toInt) (b := 300) d_Facts_asKnown_23 (by decide) rfl (by decide) (fun b5 => ?_) (fun b5 => ?_)
        · refine mv_iload d_Facts_asKnown_95 rfl ?_
          exact mv_iret d_Facts_asKnown_97 rfl (by first | rfl | decide) ⟨_, I_1, _, rfl⟩
        · refine mv_aload_n d_Facts_asKnown_26 rfl rfl ?_
          obtain ⟨a7, q6, t_a7⟩ := tm_atR I_1 h_q0_1 (k := 3) rfl
          refine tr_getK q6 d_Facts_asKnown_27 f_Facts_21_5 ?_
          refine mv_iload d_Facts_asKnown_30 rfl ?_
          refine tr_iald I_1 t_a7 (by decide) d_Facts_asKnown_32 (vp_in_iff.mpr (by omega)) (fun v8 => ?_)
          refine mv_iload_n d_Facts_asKnown_33 rfl rfl ?_
          have := mz_hi v8
          have := mz_hi x3
          refine mv_icmp_gtZ (tgt := 95) (a := v8.toInt) (b := x3.toInt) d_Facts_asKnown_34 (by decide) rfl rfl (fun b9 => ?_) (fun b9 => ?_)
          · refine mv_iload d_Facts_asKnown_95 rfl ?_
            exact mv_iret d_Facts_asKnown_97 rfl (by first | rfl | decide) ⟨_, I_1, _, rfl⟩
          · refine mv_aload_n d_Facts_asKnown_37 rfl rfl ?_
            obtain ⟨a11, q10, t_a11⟩ := tm_atR I_1 h_q0_1 (k := 0) rfl
            refine tr_getK q10 d_Facts_asKnown_38 f_Facts_9_5 ?_
            refine mv_iload d_Facts_asKnown_41 rfl ?_
            refine tr_iald I_1 t_a11 (by decide) d_Facts_asKnown_43 (vp_in_iff.mpr (by omega)) (fun v12 => ?_)
            refine mv_iload_n d_Facts_asKnown_44 rfl rfl ?_
            have := mz_hi v12
            have := mz_hi x1
            refine mv_icmp_neZ (tgt := 89) (a := v12.toInt) (b := x1.toInt) d_Facts_asKnown_45 (by decide) rfl rfl (fun b13 => ?_) (fun b13 => ?_)
            · refine mv_iinc (v := (i6_1 + 1)) (lv' := [(6, .int (i6_1 + 1)), (5, .int i5_1), (4, .int i4_1), (0, .ref o0), (1, .int x1), (2, .int x2), (3, .int x3)]) d_Facts_asKnown_89 rfl rfl (by decide) rfl ?_
              refine mv_goto (tgt := 9) d_Facts_asKnown_92 (by decide) ?_
              have b14 : (i6_1 + 1).toInt = i6_1.toInt + 1 := mz_addn 1 1 (by decide) (by have := mz_lo i6_1; omega) (by have := mz_hi i6_1; omega)
              exact ih1 (i6_1 + 1) i5_1 i4_1 T_1 M_1 n_1 I_1 h_q0_1 (by first | omega | decide) (by omega)
            · refine mv_aload_n d_Facts_asKnown_48 rfl rfl ?_
              obtain ⟨a16, q15, t_a16⟩ := tm_atR I_1 h_q0_1 (k := 1) rfl
              refine tr_getK q15 d_Facts_asKnown_49 f_Facts_15_5 ?_
              refine mv_iload d_Facts_asKnown_52 rfl ?_
              refine tr_iald I_1 t_a16 (by decide) d_Facts_asKnown_54 (vp_in_iff.mpr (by omega)) (fun v17 => ?_)
              refine mv_iload_n d_Facts_asKnown_55 rfl rfl ?_
              have := mz_hi v17
              have := mz_hi x2
              refine mv_icmp_gtZ (tgt := 89) (a := v17.toInt) (b := x2.toInt) d_Facts_asKnown_56 (by decide) rfl rfl (fun b18 => ?_) (fun b18 => ?_)
              · refine mv_iinc (v := (i6_1 + 1)) (lv' := [(6, .int (i6_1 + 1)), (5, .int i5_1), (4, .int i4_1), (0, .ref o0), (1, .int x1), (2, .int x2), (3, .int x3)]) d_Facts_asKnown_89 rfl rfl (by decide) rfl ?_
                refine mv_goto (tgt := 9) d_Facts_asKnown_92 (by decide) ?_
                have b19 : (i6_1 + 1).toInt = i6_1.toInt + 1 := mz_addn 1 1 (by decide) (by have := mz_lo i6_1; omega) (by have := mz_hi i6_1; omega)
                exact ih1 (i6_1 + 1) i5_1 i4_1 T_1 M_1 n_1 I_1 h_q0_1 (by first | omega | decide) (by omega)
              · refine mv_aload_n d_Facts_asKnown_59 rfl rfl ?_
                refine tr_getK (k := 1) q15 d_Facts_asKnown_60 f_Facts_15_5 ?_
                refine mv_iload d_Facts_asKnown_63 rfl ?_
                refine tr_iald I_1 t_a16 (by decide) d_Facts_asKnown_65 (vp_in_iff.mpr (by omega)) (fun v20 => ?_)
                refine mv_iload d_Facts_asKnown_66 rfl ?_
                have := mz_hi v20
                have := mz_hi i4_1
                refine mv_icmp_ltZ (tgt := 89) (a := v20.toInt) (b := i4_1.toInt) d_Facts_asKnown_68 (by decide) rfl rfl (fun b21 => ?_) (fun b21 => ?_)
                · refine mv_iinc (v := (i6_1 + 1)) (lv' := [(6, .int (i6_1 + 1)), (5, .int i5_1), (4, .int i4_1), (0, .ref o0), (1, .int x1), (2, .int x2), (3, .int x3)]) d_Facts_asKnown_89 rfl rfl (by decide) rfl ?_
                  refine mv_goto (tgt := 9) d_Facts_asKnown_92 (by decide) ?_
                  have b22 : (i6_1 + 1).toInt = i6_1.toInt + 1 := mz_addn 1 1 (by decide) (by have := mz_lo i6_1; omega) (by have := mz_hi i6_1; omega)
                  exact ih1 (i6_1 + 1) i5_1 i4_1 T_1 M_1 n_1 I_1 h_q0_1 (by first | omega | decide) (by omega)
                · refine mv_aload_n d_Facts_asKnown_71 rfl rfl ?_
                  refine tr_getK (k := 1) q15 d_Facts_asKnown_72 f_Facts_15_5 ?_
                  refine mv_iload d_Facts_asKnown_75 rfl ?_
                  refine tr_iald I_1 t_a16 (by decide) d_Facts_asKnown_77 (vp_in_iff.mpr (by omega)) (fun v23 => ?_)
                  refine mv_istore (lv' := [(4, .int v23), (6, .int i6_1), (5, .int i5_1), (0, .ref o0), (1, .int x1), (2, .int x2), (3, .int x3)]) d_Facts_asKnown_78 (by decide) rfl ?_
                  refine mv_aload_n d_Facts_asKnown_80 rfl rfl ?_
                  obtain ⟨a25, q24, t_a25⟩ := tm_atR I_1 h_q0_1 (k := 2) rfl
                  refine tr_getK q24 d_Facts_asKnown_81 f_Facts_18_5 ?_
                  refine mv_iload d_Facts_asKnown_84 rfl ?_
                  refine tr_iald I_1 t_a25 (by decide) d_Facts_asKnown_86 (vp_in_iff.mpr (by omega)) (fun v26 => ?_)
                  refine mv_istore (lv' := [(5, .int v26), (4, .int v23), (6, .int i6_1), (0, .ref o0), (1, .int x1), (2, .int x2), (3, .int x3)]) d_Facts_asKnown_87 (by decide) rfl ?_
                  refine mv_iinc (v := (i6_1 + 1)) (lv' := [(6, .int (i6_1 + 1)), (5, .int v26), (4, .int v23), (0, .ref o0), (1, .int x1), (2, .int x2), (3, .int x3)]) d_Facts_asKnown_89 rfl rfl (by decide) rfl ?_
                  refine mv_goto (tgt := 9) d_Facts_asKnown_92 (by decide) ?_
                  have b27 : (i6_1 + 1).toInt = i6_1.toInt + 1 := mz_addn 1 1 (by decide) (by have := mz_lo i6_1; omega) (by have := mz_hi i6_1; omega)
                  exact ih1 (i6_1 + 1) v26 v23 T_1 M_1 n_1 I_1 h_q0_1 (by first | omega | decide) (by omega)
  exact L9_1 4294967296 0 0 (-1) T0 M0 n0 I0 h_o0 (by first | omega | decide) (by show (2147483647 : Int) - _ < _; decide)
theorem lV_TrustDesk_84 : mj_lV "TrustDesk" 84 kY_Facts_asKnown 3 := ⟨⟨(mj_in1 (List.mem_of_getElem? (i := 329) (by decide +kernel)) rfl), (mj_in1 (List.mem_of_getElem? (i := 2) (by decide +kernel)) rfl), (mj_in1 (List.mem_of_getElem? (i := 332) (by decide +kernel)) rfl), by decide, rfl, by decide⟩, (mj_in1 (List.mem_of_getElem? (i := 330) (by decide +kernel)) rfl), (mj_in1 (List.mem_of_getElem? (i := 331) (by decide +kernel)) rfl)⟩
theorem d_TrustDesk_factOf_34 : decode kY_TrustDesk_factOf.2.1 34 = .ok (.ireturn, 1) := by decide +kernel
def w_TrustDesk_factOf : List Nat := []
theorem tc_TrustDesk_factOf {g : mj_G} {l : Launch} {d : Nat} {T0 : tm_H} {M0 : mj_M} {n0 x9 : Nat} {o0 : Nat} {x1 : Int32} {x2 : Int32} {x3 : Int32} (h_o0 : T0 o0 = some (0, 12, 0)) (I0 : tm_I tm_FT (tm_in w_TrustDesk_factOf) x9 T0 M0 n0 T0 M0 n0) : mj_Met g l kY_TrustDesk_factOf (d + 1) [.ref o0, .int x1, .int x2, .int x3] M0 n0 0 0 (tm_Q tm_FT (tm_in w_TrustDesk_factOf) x9 T0 M0 n0 (fun r _ _ => ∃ v : Int32, r = some (.int v))) := by
  refine mj_enter (by decide) (Nat.le_of_ble_eq_true rfl) ?_
  refine mv_iload_n d_TrustDesk_factOf_0 rfl rfl ?_
  refine mv_callS (kc' := 0) (ks' := 0) (As := [.int x1]) (st9 := [.int x1]) d_TrustDesk_factOf_1 lS_TrustDesk_66 (tc_TrustDesk_isFact (d := d) (x9 := x9) (x1 := x1)  I0.start) rfl (Nat.le_of_ble_eq_true rfl) (Nat.le_of_ble_eq_true rfl) (Nat.le_of_ble_eq_true rfl) (hst := rfl) (fun b1r M2 n3 b1 => ?_)
  obtain ⟨T4, J5, v7, rfl, b8, b9⟩ := b1
  have I6 := I0.call J5 (tm_sub (by decide)) (Or.inl rfl)
  have t10 := J5.up h_o0
  have := mz_hi v7
  refine mv_if_eqZ (tgt := 22) (a := v7.toInt) d_TrustDesk_factOf_4 (by decide) rfl (fun b11 => ?_) (fun b11 => ?_)
  · refine mv_iconst (v := (-1)) d_TrustDesk_factOf_22 (by decide) ?_
    exact mv_iret d_TrustDesk_factOf_23 rfl (by first | rfl | decide) ⟨_, I6, _, rfl⟩
  · refine mv_iload_n d_TrustDesk_factOf_7 rfl rfl ?_
    refine mv_callS (kc' := 0) (ks' := 0) (As := [.int x2]) (st9 := [.int x2]) d_TrustDesk_factOf_8 lS_TrustDesk_70 (tc_TrustDesk_isYear (d := d) (x9 := x9) (x1 := x2)  I6.start) rfl (Nat.le_of_ble_eq_true rfl) (Nat.le_of_ble_eq_true rfl) (Nat.le_of_ble_eq_true rfl) (hst := rfl) (fun b12r M13 n14 b12 => ?_)
    obtain ⟨T15, J16, v18, rfl, b19, b20⟩ := b12
    have I17 := I6.call J16 (tm_sub (by decide)) (Or.inl rfl)
    have t21 := J16.up t10
    have := mz_hi v18
    refine mv_if_eqZ (tgt := 22) (a := v18.toInt) d_TrustDesk_factOf_11 (by decide) rfl (fun b22 => ?_) (fun b22 => ?_)
    · refine mv_iconst (v := (-1)) d_TrustDesk_factOf_22 (by decide) ?_
      exact mv_iret d_TrustDesk_factOf_23 rfl (by first | rfl | decide) ⟨_, I17, _, rfl⟩
    · refine mv_aload_n d_TrustDesk_factOf_14 rfl rfl ?_
      refine mv_iload_n d_TrustDesk_factOf_15 rfl rfl ?_
      obtain ⟨_, b29, -⟩ := I17.1 _ _ t21
      refine mv_callV (kc' := 0) (ks' := 0) (As := [.int x3]) (st9 := [.int x3, .ref o0]) d_TrustDesk_factOf_16 lV_TrustDesk_81 b29 rfl (tc_TrustDesk_isKnown (d := d) (x9 := x9) (o0 := o0) (x1 := x3) t21 I17.start) rfl (Nat.le_of_ble_eq_true rfl) (Nat.le_of_ble_eq_true rfl) (Nat.le_of_ble_eq_true rfl) (hst := rfl) (fun b23r M24 n25 b23 => ?_)
      obtain ⟨T26, J27, v30, rfl, b31, b32⟩ := b23
      have I28 := I17.call J27 (tm_sub (by decide)) (Or.inl rfl)
      have t33 := J27.up t21
      have := mz_hi v30
      refine mv_if_neZ (tgt := 24) (a := v30.toInt) d_TrustDesk_factOf_19 (by decide) rfl (fun b34 => ?_) (fun b34 => ?_)
      · refine mv_aload_n d_TrustDesk_factOf_24 rfl rfl ?_
        obtain ⟨a36, q35, t_a36⟩ := tm_atR I28 t33 (k := 0) rfl
        refine tr_getK q35 d_TrustDesk_factOf_25 f_TrustDesk_10_12 ?_
        refine mv_iload_n d_TrustDesk_factOf_28 rfl rfl ?_
        refine mv_iload_n d_TrustDesk_factOf_29 rfl rfl ?_
        refine mv_iload_n d_TrustDesk_factOf_30 rfl rfl ?_
        obtain ⟨_, b43, -⟩ := I28.1 _ _ t_a36
        refine mv_callV (kc' := 0) (ks' := 0) (As := [.int x1, .int x2, .int x3]) (st9 := [.int x3, .int x2, .int x1, .ref a36]) d_TrustDesk_factOf_31 lV_TrustDesk_84 b43 rfl (tc_Facts_asKnown (d := d) (x9 := x9) (o0 := a36) (x1 := x1) (x2 := x2) (x3 := x3) t_a36 I28.start) rfl (Nat.le_of_ble_eq_true rfl) (Nat.le_of_ble_eq_true rfl) (Nat.le_of_ble_eq_true rfl) (hst := rfl) (fun b37r M38 n39 b37 => ?_)
        obtain ⟨T40, J41, v44, rfl⟩ := b37
        have I42 := I28.call J41 (tm_sub (by decide)) (Or.inl rfl)
        have t45 := J41.up t33
        have q46 := J41.keep t33 (by decide) q35
        have t47 := J41.up t_a36
        exact mv_iret d_TrustDesk_factOf_34 rfl (by first | rfl | decide) ⟨_, I42, _, rfl⟩
      · refine mv_iconst (v := (-1)) d_TrustDesk_factOf_22 (by decide) ?_
        exact mv_iret d_TrustDesk_factOf_23 rfl (by first | rfl | decide) ⟨_, I28, _, rfl⟩
abbrev kY_TrustDesk_holds : mj_Y := (⟨"TrustDesk", "holds", "(II)I"⟩, prog_1_method_7_code, 3, (Option.some Jvm.ClassFile.FieldType.int))
theorem d_TrustDesk_holds_0 : decode kY_TrustDesk_holds.2.1 0 = .ok (.iload_n 1, 1) := by decide +kernel
theorem d_TrustDesk_holds_1 : decode kY_TrustDesk_holds.2.1 1 = .ok (.invokestatic 94, 3) := by decide +kernel
abbrev kY_TrustDesk_isDay : mj_Y := (⟨"TrustDesk", "isDay", "(I)Z"⟩, prog_1_method_67_code, 1, (Option.some Jvm.ClassFile.FieldType.boolean))
theorem d_TrustDesk_isDay_0 : decode kY_TrustDesk_isDay.2.1 0 = .ok (.iload_n 0, 1) := by decide +kernel
theorem d_TrustDesk_isDay_1 : decode kY_TrustDesk_isDay.2.1 1 = .ok (.ifCond .lt 13, 3) := by decide +kernel
theorem d_TrustDesk_isDay_14 : decode kY_TrustDesk_isDay.2.1 14 = .ok (.iconst 0, 1) := by decide +kernel
theorem d_TrustDesk_isDay_15 : decode kY_TrustDesk_isDay.2.1 15 = .ok (.ireturn, 1) := by decide +kernel
theorem d_TrustDesk_isDay_4 : decode kY_TrustDesk_isDay.2.1 4 = .ok (.iload_n 0, 1) := by decide +kernel
theorem d_TrustDesk_isDay_5 : decode kY_TrustDesk_isDay.2.1 5 = .ok (.ldc 147, 2) := by decide +kernel
theorem k_TrustDesk_147 : Cond.constant "TrustDesk" 147 36000 ∈ mj_T := (mj_in1 (List.mem_of_getElem? (i := 352) (by decide +kernel)) rfl)
theorem d_TrustDesk_isDay_7 : decode kY_TrustDesk_isDay.2.1 7 = .ok (.if_icmp .gt 7, 3) := by decide +kernel
theorem d_TrustDesk_isDay_10 : decode kY_TrustDesk_isDay.2.1 10 = .ok (.iconst 1, 1) := by decide +kernel
theorem d_TrustDesk_isDay_11 : decode kY_TrustDesk_isDay.2.1 11 = .ok (.goto 4, 3) := by decide +kernel
def w_TrustDesk_isDay : List Nat := []
theorem tc_TrustDesk_isDay {g : mj_G} {l : Launch} {d : Nat} {T0 : tm_H} {M0 : mj_M} {n0 x9 : Nat} {x1 : Int32} (I0 : tm_I tm_FT (tm_in w_TrustDesk_isDay) x9 T0 M0 n0 T0 M0 n0) : mj_Met g l kY_TrustDesk_isDay d [.int x1] M0 n0 0 0 (tm_Q tm_FT (tm_in w_TrustDesk_isDay) x9 T0 M0 n0 (fun r _ _ => ∃ v : Int32, r = some (.int v) ∧ 0 ≤ v.toInt ∧ v.toInt ≤ 1)) := by
  refine mj_enter (by decide) (Nat.le_of_ble_eq_true rfl) ?_
  refine mv_iload_n d_TrustDesk_isDay_0 rfl rfl ?_
  have := mz_hi x1
  refine mv_if_ltZ (tgt := 14) (a := x1.toInt) d_TrustDesk_isDay_1 (by decide) rfl (fun b1 => ?_) (fun b1 => ?_)
  · refine mv_iconst (v := 0) d_TrustDesk_isDay_14 (by decide) ?_
    exact mv_iret d_TrustDesk_isDay_15 rfl (by decide) ⟨_, I0, _, rfl, by decide, by decide⟩
  · refine mv_iload_n d_TrustDesk_isDay_4 rfl rfl ?_
    refine mv_ldc d_TrustDesk_isDay_5 k_TrustDesk_147 ?_
    have := mz_hi x1
    refine mv_icmp_gtZ (tgt := 14) (a := x1.toInt) (b := 36000) d_TrustDesk_isDay_7 (by decide) rfl (by decide) (fun b2 => ?_) (fun b2 => ?_)
    · refine mv_iconst (v := 0) d_TrustDesk_isDay_14 (by decide) ?_
      exact mv_iret d_TrustDesk_isDay_15 rfl (by decide) ⟨_, I0, _, rfl, by decide, by decide⟩
    · refine mv_iconst (v := 1) d_TrustDesk_isDay_10 (by decide) ?_
      refine mv_goto (tgt := 15) d_TrustDesk_isDay_11 (by decide) ?_
      exact mv_iret d_TrustDesk_isDay_15 rfl (by decide) ⟨_, I0, _, rfl, by decide, by decide⟩
theorem lS_TrustDesk_94 : mj_lS "TrustDesk" 94 kY_TrustDesk_isDay 1 := ⟨⟨(mj_in1 (List.mem_of_getElem? (i := 349) (by decide +kernel)) rfl), (mj_in1 (List.mem_of_getElem? (i := 1) (by decide +kernel)) rfl), (mj_in1 (List.mem_of_getElem? (i := 351) (by decide +kernel)) rfl), by decide, rfl, by decide⟩, (mj_in1 (List.mem_of_getElem? (i := 350) (by decide +kernel)) rfl)⟩
theorem d_TrustDesk_holds_4 : decode kY_TrustDesk_holds.2.1 4 = .ok (.ifCond .eq 12, 3) := by decide +kernel
theorem d_TrustDesk_holds_16 : decode kY_TrustDesk_holds.2.1 16 = .ok (.iconst (-1), 1) := by decide +kernel
theorem d_TrustDesk_holds_17 : decode kY_TrustDesk_holds.2.1 17 = .ok (.ireturn, 1) := by decide +kernel
theorem d_TrustDesk_holds_7 : decode kY_TrustDesk_holds.2.1 7 = .ok (.iload_n 2, 1) := by decide +kernel
theorem d_TrustDesk_holds_8 : decode kY_TrustDesk_holds.2.1 8 = .ok (.ifCond .lt 8, 3) := by decide +kernel
theorem d_TrustDesk_holds_11 : decode kY_TrustDesk_holds.2.1 11 = .ok (.iload_n 2, 1) := by decide +kernel
theorem d_TrustDesk_holds_12 : decode kY_TrustDesk_holds.2.1 12 = .ok (.iconst 5, 1) := by decide +kernel
theorem d_TrustDesk_holds_13 : decode kY_TrustDesk_holds.2.1 13 = .ok (.if_icmp .le 5, 3) := by decide +kernel
theorem d_TrustDesk_holds_18 : decode kY_TrustDesk_holds.2.1 18 = .ok (.aload_n 0, 1) := by decide +kernel
theorem d_TrustDesk_holds_19 : decode kY_TrustDesk_holds.2.1 19 = .ok (.iload_n 1, 1) := by decide +kernel
theorem d_TrustDesk_holds_20 : decode kY_TrustDesk_holds.2.1 20 = .ok (.invokevirtual 114, 3) := by decide +kernel
theorem d_TrustDesk_holds_23 : decode kY_TrustDesk_holds.2.1 23 = .ok (.iload_n 2, 1) := by decide +kernel
theorem d_TrustDesk_holds_24 : decode kY_TrustDesk_holds.2.1 24 = .ok (.invokevirtual 118, 3) := by decide +kernel
theorem d_TrustDesk_holds_27 : decode kY_TrustDesk_holds.2.1 27 = .ok (.ireturn, 1) := by decide +kernel
def w_TrustDesk_holds : List Nat := []
theorem tc_TrustDesk_holds {g : mj_G} {l : Launch} {d : Nat} {T0 : tm_H} {M0 : mj_M} {n0 x9 : Nat} {o0 : Nat} {x1 : Int32} {x2 : Int32} (h_o0 : T0 o0 = some (0, 12, 0)) (I0 : tm_I tm_FT (tm_in w_TrustDesk_holds) x9 T0 M0 n0 T0 M0 n0) : mj_Met g l kY_TrustDesk_holds (d + 4) [.ref o0, .int x1, .int x2] M0 n0 0 0 (tm_Q tm_FT (tm_in w_TrustDesk_holds) x9 T0 M0 n0 (fun r _ _ => ∃ v : Int32, r = some (.int v))) := by
  refine mj_enter (by decide) (Nat.le_of_ble_eq_true rfl) ?_
  refine mv_iload_n d_TrustDesk_holds_0 rfl rfl ?_
  refine mv_callS (kc' := 0) (ks' := 0) (As := [.int x1]) (st9 := [.int x1]) d_TrustDesk_holds_1 lS_TrustDesk_94 (tc_TrustDesk_isDay (d := (d + 3)) (x9 := x9) (x1 := x1)  I0.start) rfl (Nat.le_of_ble_eq_true rfl) (Nat.le_of_ble_eq_true rfl) (Nat.le_of_ble_eq_true rfl) (hst := rfl) (fun b1r M2 n3 b1 => ?_)
  obtain ⟨T4, J5, v7, rfl, b8, b9⟩ := b1
  have I6 := I0.call J5 (tm_sub (by decide)) (Or.inl rfl)
  have t10 := J5.up h_o0
  have := mz_hi v7
  refine mv_if_eqZ (tgt := 16) (a := v7.toInt) d_TrustDesk_holds_4 (by decide) rfl (fun b11 => ?_) (fun b11 => ?_)
  · refine mv_iconst (v := (-1)) d_TrustDesk_holds_16 (by decide) ?_
    exact mv_iret d_TrustDesk_holds_17 rfl (by first | rfl | decide) ⟨_, I6, _, rfl⟩
  · refine mv_iload_n d_TrustDesk_holds_7 rfl rfl ?_
    have := mz_hi x2
    refine mv_if_ltZ (tgt := 16) (a := x2.toInt) d_TrustDesk_holds_8 (by decide) rfl (fun b12 => ?_) (fun b12 => ?_)
    · refine mv_iconst (v := (-1)) d_TrustDesk_holds_16 (by decide) ?_
      exact mv_iret d_TrustDesk_holds_17 rfl (by first | rfl | decide) ⟨_, I6, _, rfl⟩
    · refine mv_iload_n d_TrustDesk_holds_11 rfl rfl ?_
      refine mv_iconst (v := 5) d_TrustDesk_holds_12 (by decide) ?_
      have := mz_hi x2
      refine mv_icmp_leZ (tgt := 18) (a := x2.toInt) (b := 5) d_TrustDesk_holds_13 (by decide) rfl (by decide) (fun b13 => ?_) (fun b13 => ?_)
      · refine mv_aload_n d_TrustDesk_holds_18 rfl rfl ?_
        refine mv_iload_n d_TrustDesk_holds_19 rfl rfl ?_
        obtain ⟨_, b20, -⟩ := I6.1 _ _ t10
        refine mv_callV (kc' := 0) (ks' := 0) (As := [.int x1]) (st9 := [.int x1, .ref o0]) d_TrustDesk_holds_20 lV_TrustDesk_114 b20 rfl (tc_TrustDesk_inForce (d := d) (x9 := x9) (o0 := o0) (x1 := x1) t10 I6.start) rfl (Nat.le_of_ble_eq_true rfl) (Nat.le_of_ble_eq_true rfl) (Nat.le_of_ble_eq_true rfl) (hst := rfl) (fun b14r M15 n16 b14 => ?_)
        obtain ⟨T17, J18, a21, rfl, t_a21⟩ := b14
        have I19 := I6.call J18 (tm_sub (by decide)) (Or.inl rfl)
        have t22 := J18.up t10
        refine mv_iload_n d_TrustDesk_holds_23 rfl rfl ?_
        obtain ⟨_, b29, -⟩ := I19.1 _ _ t_a21
        refine mv_callV (kc' := 0) (ks' := 0) (As := [.int x2]) (st9 := [.int x2, .ref a21]) d_TrustDesk_holds_24 lV_TrustDesk_118 b29 rfl (tc_Act_rule (d := (d + 3)) (x9 := x9) (o0 := a21) (x1 := x2) t_a21 I19.start) rfl (Nat.le_of_ble_eq_true rfl) (Nat.le_of_ble_eq_true rfl) (Nat.le_of_ble_eq_true rfl) (hst := rfl) (fun b23r M24 n25 b23 => ?_)
        obtain ⟨T26, J27, v30, rfl⟩ := b23
        have I28 := I19.call J27 (tm_sub (by decide)) (Or.inl rfl)
        have t31 := J27.up t22
        exact mv_iret d_TrustDesk_holds_27 rfl (by first | rfl | decide) ⟨_, I28, _, rfl⟩
      · refine mv_iconst (v := (-1)) d_TrustDesk_holds_16 (by decide) ?_
        exact mv_iret d_TrustDesk_holds_17 rfl (by first | rfl | decide) ⟨_, I6, _, rfl⟩
abbrev kY_TrustDesk_income : mj_Y := (⟨"TrustDesk", "income", "(III)I"⟩, prog_1_method_40_code, 5, (Option.some Jvm.ClassFile.FieldType.int))
theorem d_TrustDesk_income_0 : decode kY_TrustDesk_income.2.1 0 = .ok (.aload_n 0, 1) := by decide +kernel
theorem d_TrustDesk_income_1 : decode kY_TrustDesk_income.2.1 1 = .ok (.iload_n 1, 1) := by decide +kernel
theorem d_TrustDesk_income_2 : decode kY_TrustDesk_income.2.1 2 = .ok (.invokevirtual 257, 3) := by decide +kernel
theorem d_TrustDesk_income_5 : decode kY_TrustDesk_income.2.1 5 = .ok (.astore 4, 2) := by decide +kernel
theorem d_TrustDesk_income_7 : decode kY_TrustDesk_income.2.1 7 = .ok (.aload 4, 2) := by decide +kernel
theorem d_TrustDesk_income_9 : decode kY_TrustDesk_income.2.1 9 = .ok (.ifnull 18, 3) := by decide +kernel
theorem d_TrustDesk_income_27 : decode kY_TrustDesk_income.2.1 27 = .ok (.iconst (-1), 1) := by decide +kernel
theorem d_TrustDesk_income_28 : decode kY_TrustDesk_income.2.1 28 = .ok (.ireturn, 1) := by decide +kernel
theorem d_TrustDesk_income_12 : decode kY_TrustDesk_income.2.1 12 = .ok (.iload_n 2, 1) := by decide +kernel
theorem d_TrustDesk_income_13 : decode kY_TrustDesk_income.2.1 13 = .ok (.invokestatic 70, 3) := by decide +kernel
theorem d_TrustDesk_income_16 : decode kY_TrustDesk_income.2.1 16 = .ok (.ifCond .eq 11, 3) := by decide +kernel
theorem d_TrustDesk_income_19 : decode kY_TrustDesk_income.2.1 19 = .ok (.aload_n 0, 1) := by decide +kernel
theorem d_TrustDesk_income_20 : decode kY_TrustDesk_income.2.1 20 = .ok (.iload_n 3, 1) := by decide +kernel
theorem d_TrustDesk_income_21 : decode kY_TrustDesk_income.2.1 21 = .ok (.invokevirtual 81, 3) := by decide +kernel
theorem d_TrustDesk_income_24 : decode kY_TrustDesk_income.2.1 24 = .ok (.ifCond .ne 5, 3) := by decide +kernel
theorem d_TrustDesk_income_29 : decode kY_TrustDesk_income.2.1 29 = .ok (.aload 4, 2) := by decide +kernel
theorem d_TrustDesk_income_31 : decode kY_TrustDesk_income.2.1 31 = .ok (.aload_n 0, 1) := by decide +kernel
theorem d_TrustDesk_income_32 : decode kY_TrustDesk_income.2.1 32 = .ok (.getfield 10, 3) := by decide +kernel
theorem d_TrustDesk_income_35 : decode kY_TrustDesk_income.2.1 35 = .ok (.bipush 6, 2) := by decide +kernel
theorem d_TrustDesk_income_37 : decode kY_TrustDesk_income.2.1 37 = .ok (.iload_n 2, 1) := by decide +kernel
theorem d_TrustDesk_income_38 : decode kY_TrustDesk_income.2.1 38 = .ok (.iload_n 3, 1) := by decide +kernel
theorem d_TrustDesk_income_39 : decode kY_TrustDesk_income.2.1 39 = .ok (.invokevirtual 84, 3) := by decide +kernel
theorem d_TrustDesk_income_42 : decode kY_TrustDesk_income.2.1 42 = .ok (.i2l, 1) := by decide +kernel
theorem d_TrustDesk_income_43 : decode kY_TrustDesk_income.2.1 43 = .ok (.invokevirtual 184, 3) := by decide +kernel
abbrev kY_Fund_incomeAt : mj_Y := (⟨"TrustDesk$Fund", "incomeAt", "(J)J"⟩, prog_7_method_3_code, 3, (Option.some Jvm.ClassFile.FieldType.long))
theorem d_Fund_incomeAt_0 : decode kY_Fund_incomeAt.2.1 0 = .ok (.aload_n 0, 1) := by decide +kernel
theorem d_Fund_incomeAt_1 : decode kY_Fund_incomeAt.2.1 1 = .ok (.getfield 42, 3) := by decide +kernel
theorem f_Fund_42_6 : mj_fl "TrustDesk$Fund" 42 6 1 := ⟨kR_Fund, kF_Fund, 15, "TrustDesk$Fund", rfl, kg_6, by decide, (mj_in1 (List.mem_of_getElem? (i := 666) (by decide +kernel)) rfl), Or.inl rfl⟩
theorem d_Fund_incomeAt_4 : decode kY_Fund_incomeAt.2.1 4 = .ok (.i2l, 1) := by decide +kernel
theorem d_Fund_incomeAt_5 : decode kY_Fund_incomeAt.2.1 5 = .ok (.lload_n 1, 1) := by decide +kernel
theorem d_Fund_incomeAt_6 : decode kY_Fund_incomeAt.2.1 6 = .ok (.lmul, 1) := by decide +kernel
theorem d_Fund_incomeAt_7 : decode kY_Fund_incomeAt.2.1 7 = .ok (.aload_n 0, 1) := by decide +kernel
theorem d_Fund_incomeAt_8 : decode kY_Fund_incomeAt.2.1 8 = .ok (.getfield 45, 3) := by decide +kernel
theorem f_Fund_45_6 : mj_fl "TrustDesk$Fund" 45 6 2 := ⟨kR_Fund, kF_Fund, 15, "TrustDesk$Fund", rfl, kg_6, by decide, (mj_in1 (List.mem_of_getElem? (i := 668) (by decide +kernel)) rfl), Or.inl rfl⟩
theorem d_Fund_incomeAt_11 : decode kY_Fund_incomeAt.2.1 11 = .ok (.i2l, 1) := by decide +kernel
theorem d_Fund_incomeAt_12 : decode kY_Fund_incomeAt.2.1 12 = .ok (.ladd, 1) := by decide +kernel
theorem d_Fund_incomeAt_13 : decode kY_Fund_incomeAt.2.1 13 = .ok (.lreturn, 1) := by decide +kernel
def w_Fund_incomeAt : List Nat := []
theorem tc_Fund_incomeAt {g : mj_G} {l : Launch} {d : Nat} {T0 : tm_H} {M0 : mj_M} {n0 x9 : Nat} {o0 : Nat} {x1 : Int64} (h_o0 : T0 o0 = some (0, 6, 0)) (I0 : tm_I tm_FT (tm_in w_Fund_incomeAt) x9 T0 M0 n0 T0 M0 n0) : mj_Met g l kY_Fund_incomeAt d [.ref o0, .long x1] M0 n0 0 0 (tm_Q tm_FT (tm_in w_Fund_incomeAt) x9 T0 M0 n0 (fun r _ _ => ∃ v : Int64, r = some (.long v))) := by
  refine mj_enter (by decide) (Nat.le_of_ble_eq_true rfl) ?_
  refine mv_aload_n d_Fund_incomeAt_0 rfl rfl ?_
  obtain ⟨v2, q1⟩ := tm_atI I0 h_o0 (k := 1) rfl
  refine tr_getK q1 d_Fund_incomeAt_1 f_Fund_42_6 ?_
  refine mv_i2l (v := v2.toInt64) d_Fund_incomeAt_4 rfl ?_
  refine mv_lload_n d_Fund_incomeAt_5 rfl rfl ?_
  refine mv_lmul d_Fund_incomeAt_6 ?_
  refine mv_aload_n d_Fund_incomeAt_7 rfl rfl ?_
  obtain ⟨v4, q3⟩ := tm_atI I0 h_o0 (k := 2) rfl
  refine tr_getK q3 d_Fund_incomeAt_8 f_Fund_45_6 ?_
  refine mv_i2l (v := v4.toInt64) d_Fund_incomeAt_11 rfl ?_
  refine mv_ladd d_Fund_incomeAt_12 ?_
  exact mv_lret d_Fund_incomeAt_13 rfl ⟨_, I0, _, rfl⟩
theorem lV_TrustDesk_184 : mj_lV "TrustDesk" 184 kY_Fund_incomeAt 1 := ⟨⟨(mj_in1 (List.mem_of_getElem? (i := 873) (by decide +kernel)) rfl), (mj_in1 (List.mem_of_getElem? (i := 21) (by decide +kernel)) rfl), (mj_in1 (List.mem_of_getElem? (i := 876) (by decide +kernel)) rfl), by decide, rfl, by decide⟩, (mj_in1 (List.mem_of_getElem? (i := 874) (by decide +kernel)) rfl), (mj_in1 (List.mem_of_getElem? (i := 875) (by decide +kernel)) rfl)⟩
theorem d_TrustDesk_income_46 : decode kY_TrustDesk_income.2.1 46 = .ok (.l2i, 1) := by decide +kernel
theorem d_TrustDesk_income_47 : decode kY_TrustDesk_income.2.1 47 = .ok (.ireturn, 1) := by decide +kernel
def w_TrustDesk_income : List Nat := []
theorem tc_TrustDesk_income {g : mj_G} {l : Launch} {d : Nat} {T0 : tm_H} {M0 : mj_M} {n0 x9 : Nat} {o0 : Nat} {x1 : Int32} {x2 : Int32} {x3 : Int32} (h_o0 : T0 o0 = some (0, 12, 0)) (I0 : tm_I tm_FT (tm_in w_TrustDesk_income) x9 T0 M0 n0 T0 M0 n0) : mj_Met g l kY_TrustDesk_income (d + 4) [.ref o0, .int x1, .int x2, .int x3] M0 n0 0 0 (tm_Q tm_FT (tm_in w_TrustDesk_income) x9 T0 M0 n0 (fun r _ _ => ∃ v : Int32, r = some (.int v))) := by
  refine mj_enter (by decide) (Nat.le_of_ble_eq_true rfl) ?_
  refine mv_aload_n d_TrustDesk_income_0 rfl rfl ?_
  refine mv_iload_n d_TrustDesk_income_1 rfl rfl ?_
  obtain ⟨_, b7, -⟩ := I0.1 _ _ h_o0
  refine mv_callV (kc' := 0) (ks' := 0) (As := [.int x1]) (st9 := [.int x1, .ref o0]) d_TrustDesk_income_2 lV_TrustDesk_257 b7 rfl (tc_TrustDesk_fundAt (d := d) (x9 := x9) (o0 := o0) (x1 := x1) h_o0 I0.start) rfl (Nat.le_of_ble_eq_true rfl) (Nat.le_of_ble_eq_true rfl) (Nat.le_of_ble_eq_true rfl) (hst := rfl) (fun b1r M2 n3 b1 => ?_)
  obtain ⟨T4, J5, b9⟩ := b1
  have I6 := I0.call J5 (tm_sub (by decide)) (Or.inl rfl)
  have t10 := J5.up h_o0
  rcases b9 with rfl | ⟨a8, rfl, t_a8⟩
  · refine mv_astoreN (lv' := [(4, .null), (0, .ref o0), (1, .int x1), (2, .int x2), (3, .int x3)]) d_TrustDesk_income_5 (by decide) rfl ?_
    refine mv_aloadN d_TrustDesk_income_7 rfl ?_
    refine mv_ifnullN (tgt := 27) d_TrustDesk_income_9 (by decide) ?_
    refine mv_iconst (v := (-1)) d_TrustDesk_income_27 (by decide) ?_
    exact mv_iret d_TrustDesk_income_28 rfl (by first | rfl | decide) ⟨_, I6, _, rfl⟩
  · refine mv_astore (lv' := [(4, .ref a8), (0, .ref o0), (1, .int x1), (2, .int x2), (3, .int x3)]) d_TrustDesk_income_5 (by decide) rfl ?_
    refine mv_aload d_TrustDesk_income_7 rfl ?_
    refine mv_ifnull d_TrustDesk_income_9 ?_
    refine mv_iload_n d_TrustDesk_income_12 rfl rfl ?_
    refine mv_callS (kc' := 0) (ks' := 0) (As := [.int x2]) (st9 := [.int x2]) d_TrustDesk_income_13 lS_TrustDesk_70 (tc_TrustDesk_isYear (d := (d + 3)) (x9 := x9) (x1 := x2)  I6.start) rfl (Nat.le_of_ble_eq_true rfl) (Nat.le_of_ble_eq_true rfl) (Nat.le_of_ble_eq_true rfl) (hst := rfl) (fun b11r M12 n13 b11 => ?_)
    obtain ⟨T14, J15, v17, rfl, b18, b19⟩ := b11
    have I16 := I6.call J15 (tm_sub (by decide)) (Or.inl rfl)
    have t20 := J15.up t_a8
    have t21 := J15.up t10
    have := mz_hi v17
    refine mv_if_eqZ (tgt := 27) (a := v17.toInt) d_TrustDesk_income_16 (by decide) rfl (fun b22 => ?_) (fun b22 => ?_)
    · refine mv_iconst (v := (-1)) d_TrustDesk_income_27 (by decide) ?_
      exact mv_iret d_TrustDesk_income_28 rfl (by first | rfl | decide) ⟨_, I16, _, rfl⟩
    · refine mv_aload_n d_TrustDesk_income_19 rfl rfl ?_
      refine mv_iload_n d_TrustDesk_income_20 rfl rfl ?_
      obtain ⟨_, b29, -⟩ := I16.1 _ _ t21
      refine mv_callV (kc' := 0) (ks' := 0) (As := [.int x3]) (st9 := [.int x3, .ref o0]) d_TrustDesk_income_21 lV_TrustDesk_81 b29 rfl (tc_TrustDesk_isKnown (d := (d + 3)) (x9 := x9) (o0 := o0) (x1 := x3) t21 I16.start) rfl (Nat.le_of_ble_eq_true rfl) (Nat.le_of_ble_eq_true rfl) (Nat.le_of_ble_eq_true rfl) (hst := rfl) (fun b23r M24 n25 b23 => ?_)
      obtain ⟨T26, J27, v30, rfl, b31, b32⟩ := b23
      have I28 := I16.call J27 (tm_sub (by decide)) (Or.inl rfl)
      have t33 := J27.up t20
      have t34 := J27.up t21
      have := mz_hi v30
      refine mv_if_neZ (tgt := 29) (a := v30.toInt) d_TrustDesk_income_24 (by decide) rfl (fun b35 => ?_) (fun b35 => ?_)
      · refine mv_aload d_TrustDesk_income_29 rfl ?_
        refine mv_aload_n d_TrustDesk_income_31 rfl rfl ?_
        obtain ⟨a37, q36, t_a37⟩ := tm_atR I28 t34 (k := 0) rfl
        refine tr_getK q36 d_TrustDesk_income_32 f_TrustDesk_10_12 ?_
        refine mv_bipush (v := 6) d_TrustDesk_income_35 (by decide) ?_
        refine mv_iload_n d_TrustDesk_income_37 rfl rfl ?_
        refine mv_iload_n d_TrustDesk_income_38 rfl rfl ?_
        obtain ⟨_, b44, -⟩ := I28.1 _ _ t_a37
        refine mv_callV (kc' := 0) (ks' := 0) (As := [.int 6, .int x2, .int x3]) (st9 := [.int x3, .int x2, .int 6, .ref a37, .ref a8]) d_TrustDesk_income_39 lV_TrustDesk_84 b44 rfl (tc_Facts_asKnown (d := (d + 3)) (x9 := x9) (o0 := a37) (x1 := 6) (x2 := x2) (x3 := x3) t_a37 I28.start) rfl (Nat.le_of_ble_eq_true rfl) (Nat.le_of_ble_eq_true rfl) (Nat.le_of_ble_eq_true rfl) (hst := rfl) (fun b38r M39 n40 b38 => ?_)
        obtain ⟨T41, J42, v45, rfl⟩ := b38
        have I43 := I28.call J42 (tm_sub (by decide)) (Or.inl rfl)
        have t46 := J42.up t33
        have t47 := J42.up t34
        have q48 := J42.keep t34 (by decide) q36
        have t49 := J42.up t_a37
        refine mv_i2l (v := v45.toInt64) d_TrustDesk_income_42 rfl ?_
        obtain ⟨_, b56, -⟩ := I43.1 _ _ t46
        refine mv_callV (kc' := 0) (ks' := 0) (As := [.long v45.toInt64]) (st9 := [.long v45.toInt64, .ref a8]) d_TrustDesk_income_43 lV_TrustDesk_184 b56 rfl (tc_Fund_incomeAt (d := (d + 3)) (x9 := x9) (o0 := a8) (x1 := v45.toInt64) t46 I43.start) rfl (Nat.le_of_ble_eq_true rfl) (Nat.le_of_ble_eq_true rfl) (Nat.le_of_ble_eq_true rfl) (hst := rfl) (fun b50r M51 n52 b50 => ?_)
        obtain ⟨T53, J54, v57, rfl⟩ := b50
        have I55 := I43.call J54 (tm_sub (by decide)) (Or.inl rfl)
        have t58 := J54.up t46
        have t59 := J54.up t47
        have q60 := J54.keep t47 (by decide) q48
        have t61 := J54.up t49
        refine mv_l2i (v := v57.toInt32) d_TrustDesk_income_46 rfl ?_
        exact mv_iret d_TrustDesk_income_47 rfl (by first | rfl | decide) ⟨_, I55, _, rfl⟩
      · refine mv_iconst (v := (-1)) d_TrustDesk_income_27 (by decide) ?_
        exact mv_iret d_TrustDesk_income_28 rfl (by first | rfl | decide) ⟨_, I28, _, rfl⟩
abbrev kY_TrustDesk_isCarried : mj_Y := (⟨"TrustDesk", "isCarried", "(LTrustDesk$Scheme;LTrustDesk$Fund;)Z"⟩, prog_1_method_30_code, 4, (Option.some Jvm.ClassFile.FieldType.boolean))
theorem d_TrustDesk_isCarried_0 : decode kY_TrustDesk_isCarried.2.1 0 = .ok (.aload_n 1, 1) := by decide +kernel
theorem d_TrustDesk_isCarried_1 : decode kY_TrustDesk_isCarried.2.1 1 = .ok (.aload_n 2, 1) := by decide +kernel
theorem d_TrustDesk_isCarried_2 : decode kY_TrustDesk_isCarried.2.1 2 = .ok (.invokevirtual 384, 3) := by decide +kernel
abbrev kY_Scheme_yesOf : mj_Y := (⟨"TrustDesk$Scheme", "yesOf", "(LTrustDesk$Fund;)I"⟩, prog_12_method_5_code, 4, (Option.some Jvm.ClassFile.FieldType.int))
theorem d_Scheme_yesOf_0 : decode kY_Scheme_yesOf.2.1 0 = .ok (.iconst 0, 1) := by decide +kernel
theorem d_Scheme_yesOf_1 : decode kY_Scheme_yesOf.2.1 1 = .ok (.istore_n 2, 1) := by decide +kernel
theorem d_Scheme_yesOf_2 : decode kY_Scheme_yesOf.2.1 2 = .ok (.iconst 0, 1) := by decide +kernel
theorem d_Scheme_yesOf_3 : decode kY_Scheme_yesOf.2.1 3 = .ok (.istore_n 3, 1) := by decide +kernel
theorem d_Scheme_yesOf_4 : decode kY_Scheme_yesOf.2.1 4 = .ok (.iload_n 3, 1) := by decide +kernel
theorem d_Scheme_yesOf_5 : decode kY_Scheme_yesOf.2.1 5 = .ok (.bipush 100, 2) := by decide +kernel
theorem d_Scheme_yesOf_7 : decode kY_Scheme_yesOf.2.1 7 = .ok (.if_icmp .ge 30, 3) := by decide +kernel
theorem d_Scheme_yesOf_37 : decode kY_Scheme_yesOf.2.1 37 = .ok (.iload_n 2, 1) := by decide +kernel
theorem d_Scheme_yesOf_38 : decode kY_Scheme_yesOf.2.1 38 = .ok (.ireturn, 1) := by decide +kernel
theorem d_Scheme_yesOf_10 : decode kY_Scheme_yesOf.2.1 10 = .ok (.aload_n 0, 1) := by decide +kernel
theorem d_Scheme_yesOf_11 : decode kY_Scheme_yesOf.2.1 11 = .ok (.getfield 19, 3) := by decide +kernel
theorem f_Scheme_19_11 : mj_fl "TrustDesk$Scheme" 19 11 11 := ⟨kR_Scheme, kF_Scheme, 12, "TrustDesk$Scheme", rfl, kg_11, by decide, (mj_in1 (List.mem_of_getElem? (i := 987) (by decide +kernel)) rfl), Or.inl rfl⟩
theorem d_Scheme_yesOf_14 : decode kY_Scheme_yesOf.2.1 14 = .ok (.iload_n 3, 1) := by decide +kernel
theorem d_Scheme_yesOf_15 : decode kY_Scheme_yesOf.2.1 15 = .ok (.baload, 1) := by decide +kernel
theorem d_Scheme_yesOf_16 : decode kY_Scheme_yesOf.2.1 16 = .ok (.iconst 1, 1) := by decide +kernel
theorem d_Scheme_yesOf_17 : decode kY_Scheme_yesOf.2.1 17 = .ok (.if_icmp .ne 14, 3) := by decide +kernel
theorem d_Scheme_yesOf_31 : decode kY_Scheme_yesOf.2.1 31 = .ok (.iinc 3 1, 3) := by decide +kernel
theorem d_Scheme_yesOf_34 : decode kY_Scheme_yesOf.2.1 34 = .ok (.goto (-30), 3) := by decide +kernel
theorem d_Scheme_yesOf_20 : decode kY_Scheme_yesOf.2.1 20 = .ok (.aload_n 1, 1) := by decide +kernel
theorem d_Scheme_yesOf_21 : decode kY_Scheme_yesOf.2.1 21 = .ok (.iload_n 3, 1) := by decide +kernel
theorem d_Scheme_yesOf_22 : decode kY_Scheme_yesOf.2.1 22 = .ok (.invokevirtual 47, 3) := by decide +kernel
abbrev kY_Fund_hasTrustee : mj_Y := (⟨"TrustDesk$Fund", "hasTrustee", "(I)Z"⟩, prog_7_method_11_code, 2, (Option.some Jvm.ClassFile.FieldType.boolean))
theorem d_Fund_hasTrustee_0 : decode kY_Fund_hasTrustee.2.1 0 = .ok (.iload_n 1, 1) := by decide +kernel
theorem d_Fund_hasTrustee_1 : decode kY_Fund_hasTrustee.2.1 1 = .ok (.ifCond .lt 22, 3) := by decide +kernel
theorem d_Fund_hasTrustee_23 : decode kY_Fund_hasTrustee.2.1 23 = .ok (.iconst 0, 1) := by decide +kernel
theorem d_Fund_hasTrustee_24 : decode kY_Fund_hasTrustee.2.1 24 = .ok (.ireturn, 1) := by decide +kernel
theorem d_Fund_hasTrustee_4 : decode kY_Fund_hasTrustee.2.1 4 = .ok (.iload_n 1, 1) := by decide +kernel
theorem d_Fund_hasTrustee_5 : decode kY_Fund_hasTrustee.2.1 5 = .ok (.bipush 100, 2) := by decide +kernel
theorem d_Fund_hasTrustee_7 : decode kY_Fund_hasTrustee.2.1 7 = .ok (.if_icmp .ge 16, 3) := by decide +kernel
theorem d_Fund_hasTrustee_10 : decode kY_Fund_hasTrustee.2.1 10 = .ok (.aload_n 0, 1) := by decide +kernel
theorem d_Fund_hasTrustee_11 : decode kY_Fund_hasTrustee.2.1 11 = .ok (.getfield 32, 3) := by decide +kernel
theorem f_Fund_32_6 : mj_fl "TrustDesk$Fund" 32 6 13 := ⟨kR_Fund, kF_Fund, 15, "TrustDesk$Fund", rfl, kg_6, by decide, (mj_in1 (List.mem_of_getElem? (i := 692) (by decide +kernel)) rfl), Or.inl rfl⟩
theorem d_Fund_hasTrustee_14 : decode kY_Fund_hasTrustee.2.1 14 = .ok (.iload_n 1, 1) := by decide +kernel
theorem d_Fund_hasTrustee_15 : decode kY_Fund_hasTrustee.2.1 15 = .ok (.baload, 1) := by decide +kernel
theorem d_Fund_hasTrustee_16 : decode kY_Fund_hasTrustee.2.1 16 = .ok (.ifCond .eq 7, 3) := by decide +kernel
theorem d_Fund_hasTrustee_19 : decode kY_Fund_hasTrustee.2.1 19 = .ok (.iconst 1, 1) := by decide +kernel
theorem d_Fund_hasTrustee_20 : decode kY_Fund_hasTrustee.2.1 20 = .ok (.goto 4, 3) := by decide +kernel
def w_Fund_hasTrustee : List Nat := []
theorem tc_Fund_hasTrustee {g : mj_G} {l : Launch} {d : Nat} {T0 : tm_H} {M0 : mj_M} {n0 x9 : Nat} {o0 : Nat} {x1 : Int32} (h_o0 : T0 o0 = some (0, 6, 0)) (I0 : tm_I tm_FT (tm_in w_Fund_hasTrustee) x9 T0 M0 n0 T0 M0 n0) : mj_Met g l kY_Fund_hasTrustee d [.ref o0, .int x1] M0 n0 0 0 (tm_Q tm_FT (tm_in w_Fund_hasTrustee) x9 T0 M0 n0 (fun r _ _ => ∃ v : Int32, r = some (.int v) ∧ 0 ≤ v.toInt ∧ v.toInt ≤ 1)) := by
  refine mj_enter (by decide) (Nat.le_of_ble_eq_true rfl) ?_
  refine mv_iload_n d_Fund_hasTrustee_0 rfl rfl ?_
  have := mz_hi x1
  refine mv_if_ltZ (tgt := 23) (a := x1.toInt) d_Fund_hasTrustee_1 (by decide) rfl (fun b1 => ?_) (fun b1 => ?_)
  · refine mv_iconst (v := 0) d_Fund_hasTrustee_23 (by decide) ?_
    exact mv_iret d_Fund_hasTrustee_24 rfl (by decide) ⟨_, I0, _, rfl, by decide, by decide⟩
  · refine mv_iload_n d_Fund_hasTrustee_4 rfl rfl ?_
    refine mv_bipush (v := 100) d_Fund_hasTrustee_5 (by decide) ?_
    have := mz_hi x1
    refine mv_icmp_geZ (tgt := 23) (a := x1.toInt) (b := 100) d_Fund_hasTrustee_7 (by decide) rfl (by decide) (fun b2 => ?_) (fun b2 => ?_)
    · refine mv_iconst (v := 0) d_Fund_hasTrustee_23 (by decide) ?_
      exact mv_iret d_Fund_hasTrustee_24 rfl (by decide) ⟨_, I0, _, rfl, by decide, by decide⟩
    · refine mv_aload_n d_Fund_hasTrustee_10 rfl rfl ?_
      obtain ⟨a4, q3, t_a4⟩ := tm_atR I0 h_o0 (k := 13) rfl
      refine tr_getK q3 d_Fund_hasTrustee_11 f_Fund_32_6 ?_
      refine mv_iload_n d_Fund_hasTrustee_14 rfl rfl ?_
      refine tr_zald I0 t_a4 (by decide) d_Fund_hasTrustee_15 (vp_in_iff.mpr (by omega)) (fun v5 => ?_)
      have := mz_hi v5
      refine mv_if_eqZ (tgt := 23) (a := v5.toInt) d_Fund_hasTrustee_16 (by decide) rfl (fun b6 => ?_) (fun b6 => ?_)
      · refine mv_iconst (v := 0) d_Fund_hasTrustee_23 (by decide) ?_
        exact mv_iret d_Fund_hasTrustee_24 rfl (by decide) ⟨_, I0, _, rfl, by decide, by decide⟩
      · refine mv_iconst (v := 1) d_Fund_hasTrustee_19 (by decide) ?_
        refine mv_goto (tgt := 24) d_Fund_hasTrustee_20 (by decide) ?_
        exact mv_iret d_Fund_hasTrustee_24 rfl (by decide) ⟨_, I0, _, rfl, by decide, by decide⟩
theorem lV_Scheme_47 : mj_lV "TrustDesk$Scheme" 47 kY_Fund_hasTrustee 1 := ⟨⟨(mj_in1 (List.mem_of_getElem? (i := 1112) (by decide +kernel)) rfl), (mj_in1 (List.mem_of_getElem? (i := 21) (by decide +kernel)) rfl), (mj_in1 (List.mem_of_getElem? (i := 1044) (by decide +kernel)) rfl), by decide, rfl, by decide⟩, (mj_in1 (List.mem_of_getElem? (i := 1042) (by decide +kernel)) rfl), (mj_in1 (List.mem_of_getElem? (i := 1043) (by decide +kernel)) rfl)⟩
theorem d_Scheme_yesOf_25 : decode kY_Scheme_yesOf.2.1 25 = .ok (.ifCond .eq 6, 3) := by decide +kernel
theorem d_Scheme_yesOf_28 : decode kY_Scheme_yesOf.2.1 28 = .ok (.iinc 2 1, 3) := by decide +kernel
def w_Scheme_yesOf : List Nat := []
theorem tc_Scheme_yesOf {g : mj_G} {l : Launch} {d : Nat} {T0 : tm_H} {M0 : mj_M} {n0 x9 : Nat} {o0 : Nat} {o1 : Nat} (h_o0 : T0 o0 = some (0, 11, 0)) (h_o1 : T0 o1 = some (0, 6, 0)) (I0 : tm_I tm_FT (tm_in w_Scheme_yesOf) x9 T0 M0 n0 T0 M0 n0) : mj_Met g l kY_Scheme_yesOf (d + 1) [.ref o0, .ref o1] M0 n0 0 0 (tm_Q tm_FT (tm_in w_Scheme_yesOf) x9 T0 M0 n0 (fun r _ _ => ∃ v : Int32, r = some (.int v))) := by
  refine mj_enter (by decide) (Nat.le_of_ble_eq_true rfl) ?_
  refine mv_iconst (v := 0) d_Scheme_yesOf_0 (by decide) ?_
  refine mv_istore_n (lv' := [(2, .int 0), (0, .ref o0), (1, .ref o1)]) d_Scheme_yesOf_1 rfl (by decide) rfl ?_
  refine mv_iconst (v := 0) d_Scheme_yesOf_2 (by decide) ?_
  refine mv_istore_n (lv' := [(3, .int 0), (2, .int 0), (0, .ref o0), (1, .ref o1)]) d_Scheme_yesOf_3 rfl (by decide) rfl ?_
  have L4_1 : ∀ (k : Nat) (i3_1 : Int32) (i2_1 : Int32) (T_1 : tm_H) (M_1 : mj_M) (n_1 : Nat), tm_I tm_FT (tm_in w_Scheme_yesOf) x9 T0 M0 n0 T_1 M_1 n_1 → T_1 o0 = some (0, 11, 0) → T_1 o1 = some (0, 6, 0) → 0 ≤ i3_1.toInt → 2147483647 - i3_1.toInt < (k : Int) → mj_V g l kY_Scheme_yesOf (d + 1) 4 [(3, .int i3_1), (2, .int i2_1), (0, .ref o0), (1, .ref o1)] [] M_1 n_1 0 0 (tm_Q tm_FT (tm_in w_Scheme_yesOf) x9 T0 M0 n0 (fun r _ _ => ∃ v : Int32, r = some (.int v))) := by
    intro k1
    induction k1 with
    | zero =>
      intro i3_1 i2_1 T_1 M_1 n_1 I_1 h_q0_1 h_q1_1 iv0_1 hk1
      have := mz_hi i3_1
      omega
    | succ k1 ih1 =>
      intro i3_1 i2_1 T_1 M_1 n_1 I_1 h_q0_1 h_q1_1 iv0_1 hk1
      refine mv_iload_n d_Scheme_yesOf_4 rfl rfl ?_
      refine mv_bipush (v := 100) d_Scheme_yesOf_5 (by decide) ?_
      have := mz_hi i3_1
      refine mv_icmp_geZ (tgt := 37) (a := i3_1.toInt) (b := 100) d_Scheme_yesOf_7 (by decide) rfl (by decide) (fun b2 => ?_) (fun b2 => ?_)
      · refine mv_iload_n d_Scheme_yesOf_37 rfl rfl ?_
        exact mv_iret d_Scheme_yesOf_38 rfl (by first | rfl | decide) ⟨_, I_1, _, rfl⟩
      · refine mv_aload_n d_Scheme_yesOf_10 rfl rfl ?_
        obtain ⟨a4, q3, t_a4⟩ := tm_atR I_1 h_q0_1 (k := 11) rfl
        refine tr_getK q3 d_Scheme_yesOf_11 f_Scheme_19_11 ?_
        refine mv_iload_n d_Scheme_yesOf_14 rfl rfl ?_
        refine tr_bald I_1 t_a4 (by decide) d_Scheme_yesOf_15 (vp_in_iff.mpr (by omega)) (fun v5 => ?_)
        refine mv_iconst (v := 1) d_Scheme_yesOf_16 (by decide) ?_
        have := mz_hi v5
        refine mv_icmp_neZ (tgt := 31) (a := v5.toInt) (b := 1) d_Scheme_yesOf_17 (by decide) rfl (by decide) (fun b6 => ?_) (fun b6 => ?_)
        · refine mv_iinc (v := (i3_1 + 1)) (lv' := [(3, .int (i3_1 + 1)), (2, .int i2_1), (0, .ref o0), (1, .ref o1)]) d_Scheme_yesOf_31 rfl rfl (by decide) rfl ?_
          refine mv_goto (tgt := 4) d_Scheme_yesOf_34 (by decide) ?_
          have b7 : (i3_1 + 1).toInt = i3_1.toInt + 1 := mz_addn 1 1 (by decide) (by have := mz_lo i3_1; omega) (by have := mz_hi i3_1; omega)
          exact ih1 (i3_1 + 1) i2_1 T_1 M_1 n_1 I_1 h_q0_1 h_q1_1 (by first | omega | decide) (by omega)
        · refine mv_aload_n d_Scheme_yesOf_20 rfl rfl ?_
          refine mv_iload_n d_Scheme_yesOf_21 rfl rfl ?_
          obtain ⟨_, b14, -⟩ := I_1.1 _ _ h_q1_1
          refine mv_callV (kc' := 0) (ks' := 0) (As := [.int i3_1]) (st9 := [.int i3_1, .ref o1]) d_Scheme_yesOf_22 lV_Scheme_47 b14 rfl (tc_Fund_hasTrustee (d := d) (x9 := x9) (o0 := o1) (x1 := i3_1) h_q1_1 I_1.start) rfl (Nat.le_of_ble_eq_true rfl) (Nat.le_of_ble_eq_true rfl) (Nat.le_of_ble_eq_true rfl) (hst := rfl) (fun b8r M9 n10 b8 => ?_)
          obtain ⟨T11, J12, v15, rfl, b16, b17⟩ := b8
          have I13 := I_1.call J12 (tm_sub (by decide)) (Or.inl rfl)
          have t18 := J12.up h_q0_1
          have t19 := J12.up h_q1_1
          have q20 := J12.keep h_q0_1 (by decide) q3
          have t21 := J12.up t_a4
          have := mz_hi v15
          refine mv_if_eqZ (tgt := 31) (a := v15.toInt) d_Scheme_yesOf_25 (by decide) rfl (fun b22 => ?_) (fun b22 => ?_)
          · refine mv_iinc (v := (i3_1 + 1)) (lv' := [(3, .int (i3_1 + 1)), (2, .int i2_1), (0, .ref o0), (1, .ref o1)]) d_Scheme_yesOf_31 rfl rfl (by decide) rfl ?_
            refine mv_goto (tgt := 4) d_Scheme_yesOf_34 (by decide) ?_
            have b23 : (i3_1 + 1).toInt = i3_1.toInt + 1 := mz_addn 1 1 (by decide) (by have := mz_lo i3_1; omega) (by have := mz_hi i3_1; omega)
            exact ih1 (i3_1 + 1) i2_1 T11 M9 n10 I13 t18 t19 (by first | omega | decide) (by omega)
          · refine mv_iinc (v := (i2_1 + 1)) (lv' := [(2, .int (i2_1 + 1)), (3, .int i3_1), (0, .ref o0), (1, .ref o1)]) d_Scheme_yesOf_28 rfl rfl (by decide) rfl ?_
            refine mv_iinc (v := (i3_1 + 1)) (lv' := [(3, .int (i3_1 + 1)), (2, .int (i2_1 + 1)), (0, .ref o0), (1, .ref o1)]) d_Scheme_yesOf_31 rfl rfl (by decide) rfl ?_
            refine mv_goto (tgt := 4) d_Scheme_yesOf_34 (by decide) ?_
            have b24 : (i3_1 + 1).toInt = i3_1.toInt + 1 := mz_addn 1 1 (by decide) (by have := mz_lo i3_1; omega) (by have := mz_hi i3_1; omega)
            exact ih1 (i3_1 + 1) (i2_1 + 1) T11 M9 n10 I13 t18 t19 (by first | omega | decide) (by omega)
  exact L4_1 4294967296 0 0 T0 M0 n0 I0 h_o0 h_o1 (by first | omega | decide) (by show (2147483647 : Int) - _ < _; decide)
theorem lV_TrustDesk_384 : mj_lV "TrustDesk" 384 kY_Scheme_yesOf 1 := ⟨⟨(mj_in1 (List.mem_of_getElem? (i := 1108) (by decide +kernel)) rfl), (mj_in1 (List.mem_of_getElem? (i := 25) (by decide +kernel)) rfl), (mj_in1 (List.mem_of_getElem? (i := 1111) (by decide +kernel)) rfl), by decide, rfl, by decide⟩, (mj_in1 (List.mem_of_getElem? (i := 1109) (by decide +kernel)) rfl), (mj_in1 (List.mem_of_getElem? (i := 1110) (by decide +kernel)) rfl)⟩
theorem d_TrustDesk_isCarried_5 : decode kY_TrustDesk_isCarried.2.1 5 = .ok (.aload_n 2, 1) := by decide +kernel
theorem d_TrustDesk_isCarried_6 : decode kY_TrustDesk_isCarried.2.1 6 = .ok (.getfield 388, 3) := by decide +kernel
theorem f_TrustDesk_388_6 : mj_fl "TrustDesk" 388 6 6 := ⟨kR_Fund, kF_Fund, 15, "TrustDesk$Fund", rfl, kg_6, by decide, (mj_in1 (List.mem_of_getElem? (i := 681) (by decide +kernel)) rfl), Or.inl rfl⟩
theorem d_TrustDesk_isCarried_9 : decode kY_TrustDesk_isCarried.2.1 9 = .ok (.if_icmp .ge 5, 3) := by decide +kernel
theorem d_TrustDesk_isCarried_14 : decode kY_TrustDesk_isCarried.2.1 14 = .ok (.aload_n 1, 1) := by decide +kernel
theorem d_TrustDesk_isCarried_15 : decode kY_TrustDesk_isCarried.2.1 15 = .ok (.getfield 308, 3) := by decide +kernel
theorem d_TrustDesk_isCarried_18 : decode kY_TrustDesk_isCarried.2.1 18 = .ok (.iconst 1, 1) := by decide +kernel
theorem d_TrustDesk_isCarried_19 : decode kY_TrustDesk_isCarried.2.1 19 = .ok (.if_icmp .ne 14, 3) := by decide +kernel
theorem d_TrustDesk_isCarried_33 : decode kY_TrustDesk_isCarried.2.1 33 = .ok (.aconst_null, 1) := by decide +kernel
theorem d_TrustDesk_isCarried_34 : decode kY_TrustDesk_isCarried.2.1 34 = .ok (.astore_n 3, 1) := by decide +kernel
theorem d_TrustDesk_isCarried_35 : decode kY_TrustDesk_isCarried.2.1 35 = .ok (.aload_n 3, 1) := by decide +kernel
theorem d_TrustDesk_isCarried_36 : decode kY_TrustDesk_isCarried.2.1 36 = .ok (.ifnull 15, 3) := by decide +kernel
theorem d_TrustDesk_isCarried_51 : decode kY_TrustDesk_isCarried.2.1 51 = .ok (.iconst 1, 1) := by decide +kernel
theorem d_TrustDesk_isCarried_52 : decode kY_TrustDesk_isCarried.2.1 52 = .ok (.goto 4, 3) := by decide +kernel
theorem d_TrustDesk_isCarried_56 : decode kY_TrustDesk_isCarried.2.1 56 = .ok (.ireturn, 1) := by decide +kernel
theorem d_TrustDesk_isCarried_22 : decode kY_TrustDesk_isCarried.2.1 22 = .ok (.aload_n 0, 1) := by decide +kernel
theorem d_TrustDesk_isCarried_23 : decode kY_TrustDesk_isCarried.2.1 23 = .ok (.aload_n 1, 1) := by decide +kernel
theorem d_TrustDesk_isCarried_24 : decode kY_TrustDesk_isCarried.2.1 24 = .ok (.getfield 311, 3) := by decide +kernel
theorem d_TrustDesk_isCarried_27 : decode kY_TrustDesk_isCarried.2.1 27 = .ok (.invokevirtual 257, 3) := by decide +kernel
theorem d_TrustDesk_isCarried_30 : decode kY_TrustDesk_isCarried.2.1 30 = .ok (.goto 4, 3) := by decide +kernel
theorem d_TrustDesk_isCarried_39 : decode kY_TrustDesk_isCarried.2.1 39 = .ok (.aload_n 1, 1) := by decide +kernel
theorem d_TrustDesk_isCarried_40 : decode kY_TrustDesk_isCarried.2.1 40 = .ok (.aload_n 3, 1) := by decide +kernel
theorem d_TrustDesk_isCarried_41 : decode kY_TrustDesk_isCarried.2.1 41 = .ok (.invokevirtual 384, 3) := by decide +kernel
theorem d_TrustDesk_isCarried_44 : decode kY_TrustDesk_isCarried.2.1 44 = .ok (.aload_n 3, 1) := by decide +kernel
theorem d_TrustDesk_isCarried_45 : decode kY_TrustDesk_isCarried.2.1 45 = .ok (.getfield 388, 3) := by decide +kernel
theorem d_TrustDesk_isCarried_48 : decode kY_TrustDesk_isCarried.2.1 48 = .ok (.if_icmp .lt 7, 3) := by decide +kernel
theorem d_TrustDesk_isCarried_55 : decode kY_TrustDesk_isCarried.2.1 55 = .ok (.iconst 0, 1) := by decide +kernel
theorem d_TrustDesk_isCarried_12 : decode kY_TrustDesk_isCarried.2.1 12 = .ok (.iconst 0, 1) := by decide +kernel
theorem d_TrustDesk_isCarried_13 : decode kY_TrustDesk_isCarried.2.1 13 = .ok (.ireturn, 1) := by decide +kernel
def w_TrustDesk_isCarried : List Nat := []
theorem tc_TrustDesk_isCarried {g : mj_G} {l : Launch} {d : Nat} {T0 : tm_H} {M0 : mj_M} {n0 x9 : Nat} {o0 : Nat} {o1 : Nat} {o2 : Nat} (h_o0 : T0 o0 = some (0, 12, 0)) (h_o1 : T0 o1 = some (0, 11, 0)) (h_o2 : T0 o2 = some (0, 6, 0)) (I0 : tm_I tm_FT (tm_in w_TrustDesk_isCarried) x9 T0 M0 n0 T0 M0 n0) : mj_Met g l kY_TrustDesk_isCarried (d + 4) [.ref o0, .ref o1, .ref o2] M0 n0 0 0 (tm_Q tm_FT (tm_in w_TrustDesk_isCarried) x9 T0 M0 n0 (fun r _ _ => ∃ v : Int32, r = some (.int v) ∧ 0 ≤ v.toInt ∧ v.toInt ≤ 1)) := by
  refine mj_enter (by decide) (Nat.le_of_ble_eq_true rfl) ?_
  refine mv_aload_n d_TrustDesk_isCarried_0 rfl rfl ?_
  refine mv_aload_n d_TrustDesk_isCarried_1 rfl rfl ?_
  obtain ⟨_, b7, -⟩ := I0.1 _ _ h_o1
  refine mv_callV (kc' := 0) (ks' := 0) (As := [.ref o2]) (st9 := [.ref o2, .ref o1]) d_TrustDesk_isCarried_2 lV_TrustDesk_384 b7 rfl (tc_Scheme_yesOf (d := (d + 2)) (x9 := x9) (o0 := o1) (o1 := o2) h_o1 h_o2 I0.start) rfl (Nat.le_of_ble_eq_true rfl) (Nat.le_of_ble_eq_true rfl) (Nat.le_of_ble_eq_true rfl) (hst := rfl) (fun b1r M2 n3 b1 => ?_)
  obtain ⟨T4, J5, v8, rfl⟩ := b1
  have I6 := I0.call J5 (tm_sub (by decide)) (Or.inl rfl)
  have t9 := J5.up h_o0
  have t10 := J5.up h_o1
  have t11 := J5.up h_o2
  refine mv_aload_n d_TrustDesk_isCarried_5 rfl rfl ?_
  obtain ⟨v13, q12⟩ := tm_atI I6 t11 (k := 6) rfl
  refine tr_getK q12 d_TrustDesk_isCarried_6 f_TrustDesk_388_6 ?_
  have := mz_hi v8
  have := mz_hi v13
  refine mv_icmp_geZ (tgt := 14) (a := v8.toInt) (b := v13.toInt) d_TrustDesk_isCarried_9 (by decide) rfl rfl (fun b14 => ?_) (fun b14 => ?_)
  · refine mv_aload_n d_TrustDesk_isCarried_14 rfl rfl ?_
    obtain ⟨v16, q15⟩ := tm_atI I6 t10 (k := 0) rfl
    refine tr_getK q15 d_TrustDesk_isCarried_15 f_TrustDesk_308_11 ?_
    refine mv_iconst (v := 1) d_TrustDesk_isCarried_18 (by decide) ?_
    have := mz_hi v16
    refine mv_icmp_neZ (tgt := 33) (a := v16.toInt) (b := 1) d_TrustDesk_isCarried_19 (by decide) rfl (by decide) (fun b17 => ?_) (fun b17 => ?_)
    · refine mv_null d_TrustDesk_isCarried_33 ?_
      refine mv_astore_nN (lv' := [(3, .null), (0, .ref o0), (1, .ref o1), (2, .ref o2)]) d_TrustDesk_isCarried_34 rfl (by decide) rfl ?_
      refine mv_aload_nN d_TrustDesk_isCarried_35 rfl rfl ?_
      refine mv_ifnullN (tgt := 51) d_TrustDesk_isCarried_36 (by decide) ?_
      refine mv_iconst (v := 1) d_TrustDesk_isCarried_51 (by decide) ?_
      refine mv_goto (tgt := 56) d_TrustDesk_isCarried_52 (by decide) ?_
      exact mv_iret d_TrustDesk_isCarried_56 rfl (by decide) ⟨_, I6, _, rfl, by decide, by decide⟩
    · refine mv_aload_n d_TrustDesk_isCarried_22 rfl rfl ?_
      refine mv_aload_n d_TrustDesk_isCarried_23 rfl rfl ?_
      obtain ⟨v19, q18⟩ := tm_atI I6 t10 (k := 2) rfl
      refine tr_getK q18 d_TrustDesk_isCarried_24 f_TrustDesk_311_11 ?_
      obtain ⟨_, b26, -⟩ := I6.1 _ _ t9
      refine mv_callV (kc' := 0) (ks' := 0) (As := [.int v19]) (st9 := [.int v19, .ref o0]) d_TrustDesk_isCarried_27 lV_TrustDesk_257 b26 rfl (tc_TrustDesk_fundAt (d := d) (x9 := x9) (o0 := o0) (x1 := v19) t9 I6.start) rfl (Nat.le_of_ble_eq_true rfl) (Nat.le_of_ble_eq_true rfl) (Nat.le_of_ble_eq_true rfl) (hst := rfl) (fun b20r M21 n22 b20 => ?_)
      obtain ⟨T23, J24, b28⟩ := b20
      have I25 := I6.call J24 (tm_sub (by decide)) (Or.inl rfl)
      have t29 := J24.up t9
      have t30 := J24.up t10
      have t31 := J24.up t11
      have q32 := J24.keep t11 (by decide) q12
      have q33 := J24.keep t10 (by decide) q15
      have q34 := J24.keep t10 (by decide) q18
      rcases b28 with rfl | ⟨a27, rfl, t_a27⟩
      · refine mv_goto (tgt := 34) d_TrustDesk_isCarried_30 (by decide) ?_
        refine mv_astore_nN (lv' := [(3, .null), (0, .ref o0), (1, .ref o1), (2, .ref o2)]) d_TrustDesk_isCarried_34 rfl (by decide) rfl ?_
        refine mv_aload_nN d_TrustDesk_isCarried_35 rfl rfl ?_
        refine mv_ifnullN (tgt := 51) d_TrustDesk_isCarried_36 (by decide) ?_
        refine mv_iconst (v := 1) d_TrustDesk_isCarried_51 (by decide) ?_
        refine mv_goto (tgt := 56) d_TrustDesk_isCarried_52 (by decide) ?_
        exact mv_iret d_TrustDesk_isCarried_56 rfl (by decide) ⟨_, I25, _, rfl, by decide, by decide⟩
      · refine mv_goto (tgt := 34) d_TrustDesk_isCarried_30 (by decide) ?_
        refine mv_astore_n (lv' := [(3, .ref a27), (0, .ref o0), (1, .ref o1), (2, .ref o2)]) d_TrustDesk_isCarried_34 rfl (by decide) rfl ?_
        refine mv_aload_n d_TrustDesk_isCarried_35 rfl rfl ?_
        refine mv_ifnull d_TrustDesk_isCarried_36 ?_
        refine mv_aload_n d_TrustDesk_isCarried_39 rfl rfl ?_
        refine mv_aload_n d_TrustDesk_isCarried_40 rfl rfl ?_
        obtain ⟨_, b41, -⟩ := I25.1 _ _ t30
        refine mv_callV (kc' := 0) (ks' := 0) (As := [.ref a27]) (st9 := [.ref a27, .ref o1]) d_TrustDesk_isCarried_41 lV_TrustDesk_384 b41 rfl (tc_Scheme_yesOf (d := (d + 2)) (x9 := x9) (o0 := o1) (o1 := a27) t30 t_a27 I25.start) rfl (Nat.le_of_ble_eq_true rfl) (Nat.le_of_ble_eq_true rfl) (Nat.le_of_ble_eq_true rfl) (hst := rfl) (fun b35r M36 n37 b35 => ?_)
        obtain ⟨T38, J39, v42, rfl⟩ := b35
        have I40 := I25.call J39 (tm_sub (by decide)) (Or.inl rfl)
        have t43 := J39.up t_a27
        have t44 := J39.up t29
        have t45 := J39.up t30
        have t46 := J39.up t31
        have q47 := J39.keep t31 (by decide) q32
        have q48 := J39.keep t30 (by decide) q33
        have q49 := J39.keep t30 (by decide) q34
        refine mv_aload_n d_TrustDesk_isCarried_44 rfl rfl ?_
        obtain ⟨v51, q50⟩ := tm_atI I40 t43 (k := 6) rfl
        refine tr_getK q50 d_TrustDesk_isCarried_45 f_TrustDesk_388_6 ?_
        have := mz_hi v42
        have := mz_hi v51
        refine mv_icmp_ltZ (tgt := 55) (a := v42.toInt) (b := v51.toInt) d_TrustDesk_isCarried_48 (by decide) rfl rfl (fun b52 => ?_) (fun b52 => ?_)
        · refine mv_iconst (v := 0) d_TrustDesk_isCarried_55 (by decide) ?_
          exact mv_iret d_TrustDesk_isCarried_56 rfl (by decide) ⟨_, I40, _, rfl, by decide, by decide⟩
        · refine mv_iconst (v := 1) d_TrustDesk_isCarried_51 (by decide) ?_
          refine mv_goto (tgt := 56) d_TrustDesk_isCarried_52 (by decide) ?_
          exact mv_iret d_TrustDesk_isCarried_56 rfl (by decide) ⟨_, I40, _, rfl, by decide, by decide⟩
  · refine mv_iconst (v := 0) d_TrustDesk_isCarried_12 (by decide) ?_
    exact mv_iret d_TrustDesk_isCarried_13 rfl (by decide) ⟨_, I6, _, rfl, by decide, by decide⟩
abbrev kY_TrustDesk_isPerson : mj_Y := (⟨"TrustDesk", "isPerson", "(I)Z"⟩, prog_1_method_68_code, 1, (Option.some Jvm.ClassFile.FieldType.boolean))
theorem d_TrustDesk_isPerson_0 : decode kY_TrustDesk_isPerson.2.1 0 = .ok (.iload_n 0, 1) := by decide +kernel
theorem d_TrustDesk_isPerson_1 : decode kY_TrustDesk_isPerson.2.1 1 = .ok (.ifCond .lt 13, 3) := by decide +kernel
theorem d_TrustDesk_isPerson_14 : decode kY_TrustDesk_isPerson.2.1 14 = .ok (.iconst 0, 1) := by decide +kernel
theorem d_TrustDesk_isPerson_15 : decode kY_TrustDesk_isPerson.2.1 15 = .ok (.ireturn, 1) := by decide +kernel
theorem d_TrustDesk_isPerson_4 : decode kY_TrustDesk_isPerson.2.1 4 = .ok (.iload_n 0, 1) := by decide +kernel
theorem d_TrustDesk_isPerson_5 : decode kY_TrustDesk_isPerson.2.1 5 = .ok (.bipush 100, 2) := by decide +kernel
theorem d_TrustDesk_isPerson_7 : decode kY_TrustDesk_isPerson.2.1 7 = .ok (.if_icmp .ge 7, 3) := by decide +kernel
theorem d_TrustDesk_isPerson_10 : decode kY_TrustDesk_isPerson.2.1 10 = .ok (.iconst 1, 1) := by decide +kernel
theorem d_TrustDesk_isPerson_11 : decode kY_TrustDesk_isPerson.2.1 11 = .ok (.goto 4, 3) := by decide +kernel
def w_TrustDesk_isPerson : List Nat := []
theorem tc_TrustDesk_isPerson {g : mj_G} {l : Launch} {d : Nat} {T0 : tm_H} {M0 : mj_M} {n0 x9 : Nat} {x1 : Int32} (I0 : tm_I tm_FT (tm_in w_TrustDesk_isPerson) x9 T0 M0 n0 T0 M0 n0) : mj_Met g l kY_TrustDesk_isPerson d [.int x1] M0 n0 0 0 (tm_Q tm_FT (tm_in w_TrustDesk_isPerson) x9 T0 M0 n0 (fun r _ _ => ∃ v : Int32, r = some (.int v) ∧ 0 ≤ v.toInt ∧ v.toInt ≤ 1)) := by
  refine mj_enter (by decide) (Nat.le_of_ble_eq_true rfl) ?_
  refine mv_iload_n d_TrustDesk_isPerson_0 rfl rfl ?_
  have := mz_hi x1
  refine mv_if_ltZ (tgt := 14) (a := x1.toInt) d_TrustDesk_isPerson_1 (by decide) rfl (fun b1 => ?_) (fun b1 => ?_)
  · refine mv_iconst (v := 0) d_TrustDesk_isPerson_14 (by decide) ?_
    exact mv_iret d_TrustDesk_isPerson_15 rfl (by decide) ⟨_, I0, _, rfl, by decide, by decide⟩
  · refine mv_iload_n d_TrustDesk_isPerson_4 rfl rfl ?_
    refine mv_bipush (v := 100) d_TrustDesk_isPerson_5 (by decide) ?_
    have := mz_hi x1
    refine mv_icmp_geZ (tgt := 14) (a := x1.toInt) (b := 100) d_TrustDesk_isPerson_7 (by decide) rfl (by decide) (fun b2 => ?_) (fun b2 => ?_)
    · refine mv_iconst (v := 0) d_TrustDesk_isPerson_14 (by decide) ?_
      exact mv_iret d_TrustDesk_isPerson_15 rfl (by decide) ⟨_, I0, _, rfl, by decide, by decide⟩
    · refine mv_iconst (v := 1) d_TrustDesk_isPerson_10 (by decide) ?_
      refine mv_goto (tgt := 15) d_TrustDesk_isPerson_11 (by decide) ?_
      exact mv_iret d_TrustDesk_isPerson_15 rfl (by decide) ⟨_, I0, _, rfl, by decide, by decide⟩
abbrev kY_TrustDesk_isSubject : mj_Y := (⟨"TrustDesk", "isSubject", "(II)Z"⟩, prog_1_method_19_code, 3, (Option.some Jvm.ClassFile.FieldType.boolean))
theorem d_TrustDesk_isSubject_0 : decode kY_TrustDesk_isSubject.2.1 0 = .ok (.iload_n 1, 1) := by decide +kernel
theorem d_TrustDesk_isSubject_1 : decode kY_TrustDesk_isSubject.2.1 1 = .ok (.tableswitch 87 0 3 #[31, 45, 59, 77], 31) := by decide +kernel
theorem d_TrustDesk_isSubject_88 : decode kY_TrustDesk_isSubject.2.1 88 = .ok (.iconst 0, 1) := by decide +kernel
theorem d_TrustDesk_isSubject_89 : decode kY_TrustDesk_isSubject.2.1 89 = .ok (.ireturn, 1) := by decide +kernel
theorem d_TrustDesk_isSubject_32 : decode kY_TrustDesk_isSubject.2.1 32 = .ok (.aload_n 0, 1) := by decide +kernel
theorem d_TrustDesk_isSubject_33 : decode kY_TrustDesk_isSubject.2.1 33 = .ok (.iload_n 2, 1) := by decide +kernel
theorem d_TrustDesk_isSubject_34 : decode kY_TrustDesk_isSubject.2.1 34 = .ok (.invokevirtual 276, 3) := by decide +kernel
abbrev kY_TrustDesk_nearAt : mj_Y := (⟨"TrustDesk", "nearAt", "(I)LTrustDesk$NearEnd;"⟩, prog_1_method_62_code, 2, (Option.some (Jvm.ClassFile.FieldType.object "TrustDesk$NearEnd")))
theorem d_TrustDesk_nearAt_0 : decode kY_TrustDesk_nearAt.2.1 0 = .ok (.iload_n 1, 1) := by decide +kernel
theorem d_TrustDesk_nearAt_1 : decode kY_TrustDesk_nearAt.2.1 1 = .ok (.ifCond .lt 28, 3) := by decide +kernel
theorem d_TrustDesk_nearAt_29 : decode kY_TrustDesk_nearAt.2.1 29 = .ok (.aconst_null, 1) := by decide +kernel
theorem d_TrustDesk_nearAt_30 : decode kY_TrustDesk_nearAt.2.1 30 = .ok (.areturn, 1) := by decide +kernel
theorem d_TrustDesk_nearAt_4 : decode kY_TrustDesk_nearAt.2.1 4 = .ok (.iload_n 1, 1) := by decide +kernel
theorem d_TrustDesk_nearAt_5 : decode kY_TrustDesk_nearAt.2.1 5 = .ok (.aload_n 0, 1) := by decide +kernel
theorem d_TrustDesk_nearAt_6 : decode kY_TrustDesk_nearAt.2.1 6 = .ok (.getfield 56, 3) := by decide +kernel
theorem d_TrustDesk_nearAt_9 : decode kY_TrustDesk_nearAt.2.1 9 = .ok (.invokevirtual 97, 3) := by decide +kernel
theorem d_TrustDesk_nearAt_12 : decode kY_TrustDesk_nearAt.2.1 12 = .ok (.if_icmp .ge 17, 3) := by decide +kernel
theorem d_TrustDesk_nearAt_15 : decode kY_TrustDesk_nearAt.2.1 15 = .ok (.aload_n 0, 1) := by decide +kernel
theorem d_TrustDesk_nearAt_16 : decode kY_TrustDesk_nearAt.2.1 16 = .ok (.getfield 56, 3) := by decide +kernel
theorem d_TrustDesk_nearAt_19 : decode kY_TrustDesk_nearAt.2.1 19 = .ok (.iload_n 1, 1) := by decide +kernel
theorem d_TrustDesk_nearAt_20 : decode kY_TrustDesk_nearAt.2.1 20 = .ok (.invokevirtual 158, 3) := by decide +kernel
theorem d_TrustDesk_nearAt_23 : decode kY_TrustDesk_nearAt.2.1 23 = .ok (.checkcast 139, 3) := by decide +kernel
theorem d_TrustDesk_nearAt_26 : decode kY_TrustDesk_nearAt.2.1 26 = .ok (.goto 4, 3) := by decide +kernel
def w_TrustDesk_nearAt : List Nat := []
theorem tc_TrustDesk_nearAt {g : mj_G} {l : Launch} {d : Nat} {T0 : tm_H} {M0 : mj_M} {n0 x9 : Nat} {o0 : Nat} {x1 : Int32} (h_o0 : T0 o0 = some (0, 12, 0)) (I0 : tm_I tm_FT (tm_in w_TrustDesk_nearAt) x9 T0 M0 n0 T0 M0 n0) : mj_Met g l kY_TrustDesk_nearAt (d + 3) [.ref o0, .int x1] M0 n0 0 0 (tm_Q tm_FT (tm_in w_TrustDesk_nearAt) x9 T0 M0 n0 (fun r T _ => r = some .null ∨ ∃ b, r = some (.ref b) ∧ T b = some (0, 8, 0))) := by
  refine mj_enter (by decide) (Nat.le_of_ble_eq_true rfl) ?_
  refine mv_iload_n d_TrustDesk_nearAt_0 rfl rfl ?_
  have := mz_hi x1
  refine mv_if_ltZ (tgt := 29) (a := x1.toInt) d_TrustDesk_nearAt_1 (by decide) rfl (fun b1 => ?_) (fun b1 => ?_)
  · refine mv_null d_TrustDesk_nearAt_29 ?_
    exact mv_aret (r := none) d_TrustDesk_nearAt_30 rfl (by first | exact Or.inl ⟨_, rfl⟩ | exact Or.inr ⟨_, rfl⟩) ⟨_, I0, Or.inl rfl⟩
  · refine mv_iload_n d_TrustDesk_nearAt_4 rfl rfl ?_
    refine mv_aload_n d_TrustDesk_nearAt_5 rfl rfl ?_
    obtain ⟨a3, q2, t_a3⟩ := tm_atO I0 h_o0 (k := 7) rfl
    refine tr_getK q2 d_TrustDesk_nearAt_6 f_TrustDesk_56_12 ?_
    obtain ⟨m5, n6, e7, N8, f9, h4⟩ := I0.1 _ _ t_a3
    have := h4.2.1
    have : n6.toInt ≤ 12 := h4.2.2.1
    refine mv_callV_s (kc' := 0) (ks' := 0) [] [.ref a3, .int x1] d_TrustDesk_nearAt_9 lV_TrustDesk_97 h4.1 rfl (tc_L_size (d := (d + 2)) h4.1) rfl (Nat.le_of_ble_eq_true rfl) (Nat.le_of_ble_eq_true rfl) (Nat.le_of_ble_eq_true rfl) rfl ?_
    have := mz_hi x1
    have := mz_hi n6
    refine mv_icmp_geZ (tgt := 29) (a := x1.toInt) (b := n6.toInt) d_TrustDesk_nearAt_12 (by decide) rfl rfl (fun b10 => ?_) (fun b10 => ?_)
    · refine mv_null d_TrustDesk_nearAt_29 ?_
      exact mv_aret (r := none) d_TrustDesk_nearAt_30 rfl (by first | exact Or.inl ⟨_, rfl⟩ | exact Or.inr ⟨_, rfl⟩) ⟨_, I0, Or.inl rfl⟩
    · refine mv_aload_n d_TrustDesk_nearAt_15 rfl rfl ?_
      refine tr_getK (k := 7) q2 d_TrustDesk_nearAt_16 f_TrustDesk_56_12 ?_
      refine mv_iload_n d_TrustDesk_nearAt_19 rfl rfl ?_
      obtain ⟨u11e, u11i, a12, u11f, u11t⟩ := tm_el (i := x1) h4 (by omega) (by omega)
      have t_a12 : T0 a12 = some (0, 8, 0) := u11t
      refine mv_callV_s (kc' := 0) (ks' := 0) [.int x1] [.int x1, .ref a3] d_TrustDesk_nearAt_20 lV_TrustDesk_158 h4.1 rfl (tc_L_get (d := d) h4.1 u11e (by omega) (by omega) u11i u11f) rfl (Nat.le_of_ble_eq_true rfl) (Nat.le_of_ble_eq_true rfl) (Nat.le_of_ble_eq_true rfl) rfl ?_
      obtain ⟨_, b13, -⟩ := I0.1 _ _ t_a12
      refine mv_castS (T9 := kF_NearEnd) (N := 2) d_TrustDesk_nearAt_23 (mj_in1 (List.mem_of_getElem? (i := 821) (by decide +kernel)) rfl) b13 rfl ?_
      refine mv_goto (tgt := 30) d_TrustDesk_nearAt_26 (by decide) ?_
      exact mv_aret (r := some a12) d_TrustDesk_nearAt_30 rfl (by first | exact Or.inl ⟨_, rfl⟩ | exact Or.inr ⟨_, rfl⟩) ⟨_, I0, Or.inr ⟨_, rfl, t_a12⟩⟩
theorem lV_TrustDesk_276 : mj_lV "TrustDesk" 276 kY_TrustDesk_nearAt 1 := ⟨⟨(mj_in1 (List.mem_of_getElem? (i := 957) (by decide +kernel)) rfl), (mj_in1 (List.mem_of_getElem? (i := 1) (by decide +kernel)) rfl), (mj_in1 (List.mem_of_getElem? (i := 960) (by decide +kernel)) rfl), by decide, rfl, by decide⟩, (mj_in1 (List.mem_of_getElem? (i := 959) (by decide +kernel)) rfl), (mj_in (List.mem_append_left _ (List.mem_of_getElem? (i := 51) (by decide +kernel))) rfl)⟩
theorem d_TrustDesk_isSubject_37 : decode kY_TrustDesk_isSubject.2.1 37 = .ok (.ifnull 7, 3) := by decide +kernel
theorem d_TrustDesk_isSubject_44 : decode kY_TrustDesk_isSubject.2.1 44 = .ok (.iconst 0, 1) := by decide +kernel
theorem d_TrustDesk_isSubject_45 : decode kY_TrustDesk_isSubject.2.1 45 = .ok (.ireturn, 1) := by decide +kernel
theorem d_TrustDesk_isSubject_40 : decode kY_TrustDesk_isSubject.2.1 40 = .ok (.iconst 1, 1) := by decide +kernel
theorem d_TrustDesk_isSubject_41 : decode kY_TrustDesk_isSubject.2.1 41 = .ok (.goto 4, 3) := by decide +kernel
theorem d_TrustDesk_isSubject_46 : decode kY_TrustDesk_isSubject.2.1 46 = .ok (.aload_n 0, 1) := by decide +kernel
theorem d_TrustDesk_isSubject_47 : decode kY_TrustDesk_isSubject.2.1 47 = .ok (.iload_n 2, 1) := by decide +kernel
theorem d_TrustDesk_isSubject_48 : decode kY_TrustDesk_isSubject.2.1 48 = .ok (.invokevirtual 257, 3) := by decide +kernel
theorem d_TrustDesk_isSubject_51 : decode kY_TrustDesk_isSubject.2.1 51 = .ok (.ifnull 7, 3) := by decide +kernel
theorem d_TrustDesk_isSubject_58 : decode kY_TrustDesk_isSubject.2.1 58 = .ok (.iconst 0, 1) := by decide +kernel
theorem d_TrustDesk_isSubject_59 : decode kY_TrustDesk_isSubject.2.1 59 = .ok (.ireturn, 1) := by decide +kernel
theorem d_TrustDesk_isSubject_54 : decode kY_TrustDesk_isSubject.2.1 54 = .ok (.iconst 1, 1) := by decide +kernel
theorem d_TrustDesk_isSubject_55 : decode kY_TrustDesk_isSubject.2.1 55 = .ok (.goto 4, 3) := by decide +kernel
theorem d_TrustDesk_isSubject_60 : decode kY_TrustDesk_isSubject.2.1 60 = .ok (.iload_n 2, 1) := by decide +kernel
theorem d_TrustDesk_isSubject_61 : decode kY_TrustDesk_isSubject.2.1 61 = .ok (.iconst 1, 1) := by decide +kernel
theorem d_TrustDesk_isSubject_62 : decode kY_TrustDesk_isSubject.2.1 62 = .ok (.if_icmp .lt 14, 3) := by decide +kernel
theorem d_TrustDesk_isSubject_76 : decode kY_TrustDesk_isSubject.2.1 76 = .ok (.iconst 0, 1) := by decide +kernel
theorem d_TrustDesk_isSubject_77 : decode kY_TrustDesk_isSubject.2.1 77 = .ok (.ireturn, 1) := by decide +kernel
theorem d_TrustDesk_isSubject_65 : decode kY_TrustDesk_isSubject.2.1 65 = .ok (.iload_n 2, 1) := by decide +kernel
theorem d_TrustDesk_isSubject_66 : decode kY_TrustDesk_isSubject.2.1 66 = .ok (.sipush 999, 3) := by decide +kernel
theorem d_TrustDesk_isSubject_69 : decode kY_TrustDesk_isSubject.2.1 69 = .ok (.if_icmp .gt 7, 3) := by decide +kernel
theorem d_TrustDesk_isSubject_72 : decode kY_TrustDesk_isSubject.2.1 72 = .ok (.iconst 1, 1) := by decide +kernel
theorem d_TrustDesk_isSubject_73 : decode kY_TrustDesk_isSubject.2.1 73 = .ok (.goto 4, 3) := by decide +kernel
theorem d_TrustDesk_isSubject_78 : decode kY_TrustDesk_isSubject.2.1 78 = .ok (.iload_n 2, 1) := by decide +kernel
theorem d_TrustDesk_isSubject_79 : decode kY_TrustDesk_isSubject.2.1 79 = .ok (.ifCond .lt 7, 3) := by decide +kernel
theorem d_TrustDesk_isSubject_86 : decode kY_TrustDesk_isSubject.2.1 86 = .ok (.iconst 0, 1) := by decide +kernel
theorem d_TrustDesk_isSubject_87 : decode kY_TrustDesk_isSubject.2.1 87 = .ok (.ireturn, 1) := by decide +kernel
theorem d_TrustDesk_isSubject_82 : decode kY_TrustDesk_isSubject.2.1 82 = .ok (.iconst 1, 1) := by decide +kernel
theorem d_TrustDesk_isSubject_83 : decode kY_TrustDesk_isSubject.2.1 83 = .ok (.goto 4, 3) := by decide +kernel
def w_TrustDesk_isSubject : List Nat := []
theorem tc_TrustDesk_isSubject {g : mj_G} {l : Launch} {d : Nat} {T0 : tm_H} {M0 : mj_M} {n0 x9 : Nat} {o0 : Nat} {x1 : Int32} {x2 : Int32} (h_o0 : T0 o0 = some (0, 12, 0)) (I0 : tm_I tm_FT (tm_in w_TrustDesk_isSubject) x9 T0 M0 n0 T0 M0 n0) : mj_Met g l kY_TrustDesk_isSubject (d + 4) [.ref o0, .int x1, .int x2] M0 n0 0 0 (tm_Q tm_FT (tm_in w_TrustDesk_isSubject) x9 T0 M0 n0 (fun r _ _ => ∃ v : Int32, r = some (.int v) ∧ 0 ≤ v.toInt ∧ v.toInt ≤ 1)) := by
  refine mj_enter (by decide) (Nat.le_of_ble_eq_true rfl) ?_
  refine mv_iload_n d_TrustDesk_isSubject_0 rfl rfl ?_
  rcases (show (x1.toInt < 0 ∨ 3 < x1.toInt) ∨ x1.toInt = 0 ∨ x1.toInt = 1 ∨ x1.toInt = 2 ∨ x1.toInt = 3 by omega) with b1 | b1 | b1 | b1 | b1
  · refine mv_tableOut (tgt := 88) d_TrustDesk_isSubject_1 b1 (by decide) ?_
    refine mv_iconst (v := 0) d_TrustDesk_isSubject_88 (by decide) ?_
    exact mv_iret d_TrustDesk_isSubject_89 rfl (by decide) ⟨_, I0, _, rfl, by decide, by decide⟩
  · refine mv_tableIn (tgt := 32) (off := 31) d_TrustDesk_isSubject_1 (by omega) (by omega) (by rw [b1]; rfl) (by decide) ?_
    refine mv_aload_n d_TrustDesk_isSubject_32 rfl rfl ?_
    refine mv_iload_n d_TrustDesk_isSubject_33 rfl rfl ?_
    obtain ⟨_, b8, -⟩ := I0.1 _ _ h_o0
    refine mv_callV (kc' := 0) (ks' := 0) (As := [.int x2]) (st9 := [.int x2, .ref o0]) d_TrustDesk_isSubject_34 lV_TrustDesk_276 b8 rfl (tc_TrustDesk_nearAt (d := d) (x9 := x9) (o0 := o0) (x1 := x2) h_o0 I0.start) rfl (Nat.le_of_ble_eq_true rfl) (Nat.le_of_ble_eq_true rfl) (Nat.le_of_ble_eq_true rfl) (hst := rfl) (fun b2r M3 n4 b2 => ?_)
    obtain ⟨T5, J6, b10⟩ := b2
    have I7 := I0.call J6 (tm_sub (by decide)) (Or.inl rfl)
    have t11 := J6.up h_o0
    rcases b10 with rfl | ⟨a9, rfl, t_a9⟩
    · refine mv_ifnullN (tgt := 44) d_TrustDesk_isSubject_37 (by decide) ?_
      refine mv_iconst (v := 0) d_TrustDesk_isSubject_44 (by decide) ?_
      exact mv_iret d_TrustDesk_isSubject_45 rfl (by decide) ⟨_, I7, _, rfl, by decide, by decide⟩
    · refine mv_ifnull d_TrustDesk_isSubject_37 ?_
      refine mv_iconst (v := 1) d_TrustDesk_isSubject_40 (by decide) ?_
      refine mv_goto (tgt := 45) d_TrustDesk_isSubject_41 (by decide) ?_
      exact mv_iret d_TrustDesk_isSubject_45 rfl (by decide) ⟨_, I7, _, rfl, by decide, by decide⟩
  · refine mv_tableIn (tgt := 46) (off := 45) d_TrustDesk_isSubject_1 (by omega) (by omega) (by rw [b1]; rfl) (by decide) ?_
    refine mv_aload_n d_TrustDesk_isSubject_46 rfl rfl ?_
    refine mv_iload_n d_TrustDesk_isSubject_47 rfl rfl ?_
    obtain ⟨_, b18, -⟩ := I0.1 _ _ h_o0
    refine mv_callV (kc' := 0) (ks' := 0) (As := [.int x2]) (st9 := [.int x2, .ref o0]) d_TrustDesk_isSubject_48 lV_TrustDesk_257 b18 rfl (tc_TrustDesk_fundAt (d := d) (x9 := x9) (o0 := o0) (x1 := x2) h_o0 I0.start) rfl (Nat.le_of_ble_eq_true rfl) (Nat.le_of_ble_eq_true rfl) (Nat.le_of_ble_eq_true rfl) (hst := rfl) (fun b12r M13 n14 b12 => ?_)
    obtain ⟨T15, J16, b20⟩ := b12
    have I17 := I0.call J16 (tm_sub (by decide)) (Or.inl rfl)
    have t21 := J16.up h_o0
    rcases b20 with rfl | ⟨a19, rfl, t_a19⟩
    · refine mv_ifnullN (tgt := 58) d_TrustDesk_isSubject_51 (by decide) ?_
      refine mv_iconst (v := 0) d_TrustDesk_isSubject_58 (by decide) ?_
      exact mv_iret d_TrustDesk_isSubject_59 rfl (by decide) ⟨_, I17, _, rfl, by decide, by decide⟩
    · refine mv_ifnull d_TrustDesk_isSubject_51 ?_
      refine mv_iconst (v := 1) d_TrustDesk_isSubject_54 (by decide) ?_
      refine mv_goto (tgt := 59) d_TrustDesk_isSubject_55 (by decide) ?_
      exact mv_iret d_TrustDesk_isSubject_59 rfl (by decide) ⟨_, I17, _, rfl, by decide, by decide⟩
  · refine mv_tableIn (tgt := 60) (off := 59) d_TrustDesk_isSubject_1 (by omega) (by omega) (by rw [b1]; rfl) (by decide) ?_
    refine mv_iload_n d_TrustDesk_isSubject_60 rfl rfl ?_
    refine mv_iconst (v := 1) d_TrustDesk_isSubject_61 (by decide) ?_
    have := mz_hi x2
    refine mv_icmp_ltZ (tgt := 76) (a := x2.toInt) (b := 1) d_TrustDesk_isSubject_62 (by decide) rfl (by decide) (fun b22 => ?_) (fun b22 => ?_)
    · refine mv_iconst (v := 0) d_TrustDesk_isSubject_76 (by decide) ?_
      exact mv_iret d_TrustDesk_isSubject_77 rfl (by decide) ⟨_, I0, _, rfl, by decide, by decide⟩
    · refine mv_iload_n d_TrustDesk_isSubject_65 rfl rfl ?_
      refine mv_sipush (v := 999) d_TrustDesk_isSubject_66 (by decide) ?_
      have := mz_hi x2
      refine mv_icmp_gtZ (tgt := 76) (a := x2.toInt) (b := 999) d_TrustDesk_isSubject_69 (by decide) rfl (by decide) (fun b23 => ?_) (fun b23 => ?_)
      · refine mv_iconst (v := 0) d_TrustDesk_isSubject_76 (by decide) ?_
        exact mv_iret d_TrustDesk_isSubject_77 rfl (by decide) ⟨_, I0, _, rfl, by decide, by decide⟩
      · refine mv_iconst (v := 1) d_TrustDesk_isSubject_72 (by decide) ?_
        refine mv_goto (tgt := 77) d_TrustDesk_isSubject_73 (by decide) ?_
        exact mv_iret d_TrustDesk_isSubject_77 rfl (by decide) ⟨_, I0, _, rfl, by decide, by decide⟩
  · refine mv_tableIn (tgt := 78) (off := 77) d_TrustDesk_isSubject_1 (by omega) (by omega) (by rw [b1]; rfl) (by decide) ?_
    refine mv_iload_n d_TrustDesk_isSubject_78 rfl rfl ?_
    have := mz_hi x2
    refine mv_if_ltZ (tgt := 86) (a := x2.toInt) d_TrustDesk_isSubject_79 (by decide) rfl (fun b24 => ?_) (fun b24 => ?_)
    · refine mv_iconst (v := 0) d_TrustDesk_isSubject_86 (by decide) ?_
      exact mv_iret d_TrustDesk_isSubject_87 rfl (by decide) ⟨_, I0, _, rfl, by decide, by decide⟩
    · refine mv_iconst (v := 1) d_TrustDesk_isSubject_82 (by decide) ?_
      refine mv_goto (tgt := 87) d_TrustDesk_isSubject_83 (by decide) ?_
      exact mv_iret d_TrustDesk_isSubject_87 rfl (by decide) ⟨_, I0, _, rfl, by decide, by decide⟩
abbrev kY_TrustDesk_lay : mj_Y := (⟨"TrustDesk", "lay", "(II)Z"⟩, prog_1_method_51_code, 4, (Option.some Jvm.ClassFile.FieldType.boolean))
theorem d_TrustDesk_lay_0 : decode kY_TrustDesk_lay.2.1 0 = .ok (.aload_n 0, 1) := by decide +kernel
theorem d_TrustDesk_lay_1 : decode kY_TrustDesk_lay.2.1 1 = .ok (.iload_n 1, 1) := by decide +kernel
theorem d_TrustDesk_lay_2 : decode kY_TrustDesk_lay.2.1 2 = .ok (.invokevirtual 257, 3) := by decide +kernel
theorem d_TrustDesk_lay_5 : decode kY_TrustDesk_lay.2.1 5 = .ok (.astore_n 3, 1) := by decide +kernel
theorem d_TrustDesk_lay_6 : decode kY_TrustDesk_lay.2.1 6 = .ok (.aload_n 3, 1) := by decide +kernel
theorem d_TrustDesk_lay_7 : decode kY_TrustDesk_lay.2.1 7 = .ok (.ifnull 13, 3) := by decide +kernel
theorem d_TrustDesk_lay_20 : decode kY_TrustDesk_lay.2.1 20 = .ok (.iconst 0, 1) := by decide +kernel
theorem d_TrustDesk_lay_21 : decode kY_TrustDesk_lay.2.1 21 = .ok (.ireturn, 1) := by decide +kernel
theorem d_TrustDesk_lay_10 : decode kY_TrustDesk_lay.2.1 10 = .ok (.iload_n 2, 1) := by decide +kernel
theorem d_TrustDesk_lay_11 : decode kY_TrustDesk_lay.2.1 11 = .ok (.ifCond .lt 9, 3) := by decide +kernel
theorem d_TrustDesk_lay_14 : decode kY_TrustDesk_lay.2.1 14 = .ok (.iload_n 2, 1) := by decide +kernel
theorem d_TrustDesk_lay_15 : decode kY_TrustDesk_lay.2.1 15 = .ok (.bipush 8, 2) := by decide +kernel
theorem d_TrustDesk_lay_17 : decode kY_TrustDesk_lay.2.1 17 = .ok (.if_icmp .lt 5, 3) := by decide +kernel
theorem d_TrustDesk_lay_22 : decode kY_TrustDesk_lay.2.1 22 = .ok (.aload_n 3, 1) := by decide +kernel
theorem d_TrustDesk_lay_23 : decode kY_TrustDesk_lay.2.1 23 = .ok (.iload_n 2, 1) := by decide +kernel
theorem d_TrustDesk_lay_24 : decode kY_TrustDesk_lay.2.1 24 = .ok (.putfield 489, 3) := by decide +kernel
theorem p_TrustDesk_489_6 : mj_fp "TrustDesk" 489 6 9 (kt_Fund 9) false := ⟨kR_Fund, kF_Fund, 15, "TrustDesk$Fund", kt_Fund, rfl, kg_6, by decide, (mj_in1 (List.mem_of_getElem? (i := 686) (by decide +kernel)) rfl), Or.inl rfl, kto_Fund, kn_Fund, rfl, rfl, fun h => by cases h⟩
theorem d_TrustDesk_lay_27 : decode kY_TrustDesk_lay.2.1 27 = .ok (.iconst 1, 1) := by decide +kernel
theorem d_TrustDesk_lay_28 : decode kY_TrustDesk_lay.2.1 28 = .ok (.ireturn, 1) := by decide +kernel
def w_TrustDesk_lay : List Nat := [609]
theorem tc_TrustDesk_lay {g : mj_G} {l : Launch} {d : Nat} {T0 : tm_H} {M0 : mj_M} {n0 x9 : Nat} {o0 : Nat} {x1 : Int32} {x2 : Int32} (h_o0 : T0 o0 = some (0, 12, 0)) (I0 : tm_I tm_FT (tm_in w_TrustDesk_lay) x9 T0 M0 n0 T0 M0 n0) : mj_Met g l kY_TrustDesk_lay (d + 4) [.ref o0, .int x1, .int x2] M0 n0 0 0 (tm_Q tm_FT (tm_in w_TrustDesk_lay) x9 T0 M0 n0 (fun r _ _ => ∃ v : Int32, r = some (.int v) ∧ 0 ≤ v.toInt ∧ v.toInt ≤ 1)) := by
  refine mj_enter (by decide) (Nat.le_of_ble_eq_true rfl) ?_
  refine mv_aload_n d_TrustDesk_lay_0 rfl rfl ?_
  refine mv_iload_n d_TrustDesk_lay_1 rfl rfl ?_
  obtain ⟨_, b7, -⟩ := I0.1 _ _ h_o0
  refine mv_callV (kc' := 0) (ks' := 0) (As := [.int x1]) (st9 := [.int x1, .ref o0]) d_TrustDesk_lay_2 lV_TrustDesk_257 b7 rfl (tc_TrustDesk_fundAt (d := d) (x9 := x9) (o0 := o0) (x1 := x1) h_o0 I0.start) rfl (Nat.le_of_ble_eq_true rfl) (Nat.le_of_ble_eq_true rfl) (Nat.le_of_ble_eq_true rfl) (hst := rfl) (fun b1r M2 n3 b1 => ?_)
  obtain ⟨T4, J5, b9⟩ := b1
  have I6 := I0.call J5 (tm_sub (by decide)) (Or.inl rfl)
  have t10 := J5.up h_o0
  rcases b9 with rfl | ⟨a8, rfl, t_a8⟩
  · refine mv_astore_nN (lv' := [(3, .null), (0, .ref o0), (1, .int x1), (2, .int x2)]) d_TrustDesk_lay_5 rfl (by decide) rfl ?_
    refine mv_aload_nN d_TrustDesk_lay_6 rfl rfl ?_
    refine mv_ifnullN (tgt := 20) d_TrustDesk_lay_7 (by decide) ?_
    refine mv_iconst (v := 0) d_TrustDesk_lay_20 (by decide) ?_
    exact mv_iret d_TrustDesk_lay_21 rfl (by decide) ⟨_, I6, _, rfl, by decide, by decide⟩
  · refine mv_astore_n (lv' := [(3, .ref a8), (0, .ref o0), (1, .int x1), (2, .int x2)]) d_TrustDesk_lay_5 rfl (by decide) rfl ?_
    refine mv_aload_n d_TrustDesk_lay_6 rfl rfl ?_
    refine mv_ifnull d_TrustDesk_lay_7 ?_
    refine mv_iload_n d_TrustDesk_lay_10 rfl rfl ?_
    have := mz_hi x2
    refine mv_if_ltZ (tgt := 20) (a := x2.toInt) d_TrustDesk_lay_11 (by decide) rfl (fun b11 => ?_) (fun b11 => ?_)
    · refine mv_iconst (v := 0) d_TrustDesk_lay_20 (by decide) ?_
      exact mv_iret d_TrustDesk_lay_21 rfl (by decide) ⟨_, I6, _, rfl, by decide, by decide⟩
    · refine mv_iload_n d_TrustDesk_lay_14 rfl rfl ?_
      refine mv_bipush (v := 8) d_TrustDesk_lay_15 (by decide) ?_
      have := mz_hi x2
      refine mv_icmp_ltZ (tgt := 22) (a := x2.toInt) (b := 8) d_TrustDesk_lay_17 (by decide) rfl (by decide) (fun b12 => ?_) (fun b12 => ?_)
      · refine mv_aload_n d_TrustDesk_lay_22 rfl rfl ?_
        refine mv_iload_n d_TrustDesk_lay_23 rfl rfl ?_
        refine tr_putK tm_okF I6 t_a8 (k := 9) rfl ⟨_, rfl⟩ (Or.inl (by decide)) d_TrustDesk_lay_24 p_TrustDesk_489_6 rfl rfl (fun M13 I14 q15 K16 => ?_)
        refine mv_iconst (v := 1) d_TrustDesk_lay_27 (by decide) ?_
        exact mv_iret d_TrustDesk_lay_28 rfl (by decide) ⟨_, I14, _, rfl, by decide, by decide⟩
      · refine mv_iconst (v := 0) d_TrustDesk_lay_20 (by decide) ?_
        exact mv_iret d_TrustDesk_lay_21 rfl (by decide) ⟨_, I6, _, rfl, by decide, by decide⟩
abbrev kY_TrustDesk_marks : mj_Y := (⟨"TrustDesk", "marks", "(III)I"⟩, prog_1_method_48_code, 6, (Option.some Jvm.ClassFile.FieldType.int))
theorem d_TrustDesk_marks_0 : decode kY_TrustDesk_marks.2.1 0 = .ok (.aload_n 0, 1) := by decide +kernel
theorem d_TrustDesk_marks_1 : decode kY_TrustDesk_marks.2.1 1 = .ok (.iload_n 1, 1) := by decide +kernel
theorem d_TrustDesk_marks_2 : decode kY_TrustDesk_marks.2.1 2 = .ok (.invokevirtual 257, 3) := by decide +kernel
theorem d_TrustDesk_marks_5 : decode kY_TrustDesk_marks.2.1 5 = .ok (.astore 4, 2) := by decide +kernel
theorem d_TrustDesk_marks_7 : decode kY_TrustDesk_marks.2.1 7 = .ok (.aload_n 0, 1) := by decide +kernel
theorem d_TrustDesk_marks_8 : decode kY_TrustDesk_marks.2.1 8 = .ok (.iload_n 2, 1) := by decide +kernel
theorem d_TrustDesk_marks_9 : decode kY_TrustDesk_marks.2.1 9 = .ok (.invokevirtual 276, 3) := by decide +kernel
theorem d_TrustDesk_marks_12 : decode kY_TrustDesk_marks.2.1 12 = .ok (.astore 5, 2) := by decide +kernel
theorem d_TrustDesk_marks_14 : decode kY_TrustDesk_marks.2.1 14 = .ok (.aload 4, 2) := by decide +kernel
theorem d_TrustDesk_marks_16 : decode kY_TrustDesk_marks.2.1 16 = .ok (.ifnull 17, 3) := by decide +kernel
theorem d_TrustDesk_marks_33 : decode kY_TrustDesk_marks.2.1 33 = .ok (.iconst (-1), 1) := by decide +kernel
theorem d_TrustDesk_marks_34 : decode kY_TrustDesk_marks.2.1 34 = .ok (.ireturn, 1) := by decide +kernel
theorem d_TrustDesk_marks_19 : decode kY_TrustDesk_marks.2.1 19 = .ok (.aload 5, 2) := by decide +kernel
theorem d_TrustDesk_marks_21 : decode kY_TrustDesk_marks.2.1 21 = .ok (.ifnull 12, 3) := by decide +kernel
theorem d_TrustDesk_marks_24 : decode kY_TrustDesk_marks.2.1 24 = .ok (.iload_n 3, 1) := by decide +kernel
theorem d_TrustDesk_marks_25 : decode kY_TrustDesk_marks.2.1 25 = .ok (.ifCond .lt 8, 3) := by decide +kernel
theorem d_TrustDesk_marks_28 : decode kY_TrustDesk_marks.2.1 28 = .ok (.iload_n 3, 1) := by decide +kernel
theorem d_TrustDesk_marks_29 : decode kY_TrustDesk_marks.2.1 29 = .ok (.iconst 1, 1) := by decide +kernel
theorem d_TrustDesk_marks_30 : decode kY_TrustDesk_marks.2.1 30 = .ok (.if_icmp .le 5, 3) := by decide +kernel
theorem d_TrustDesk_marks_35 : decode kY_TrustDesk_marks.2.1 35 = .ok (.aload 4, 2) := by decide +kernel
theorem d_TrustDesk_marks_37 : decode kY_TrustDesk_marks.2.1 37 = .ok (.getfield 372, 3) := by decide +kernel
theorem d_TrustDesk_marks_40 : decode kY_TrustDesk_marks.2.1 40 = .ok (.iload_n 3, 1) := by decide +kernel
theorem d_TrustDesk_marks_41 : decode kY_TrustDesk_marks.2.1 41 = .ok (.ifCond .ne 11, 3) := by decide +kernel
theorem d_TrustDesk_marks_52 : decode kY_TrustDesk_marks.2.1 52 = .ok (.aload 5, 2) := by decide +kernel
theorem d_TrustDesk_marks_54 : decode kY_TrustDesk_marks.2.1 54 = .ok (.getfield 383, 3) := by decide +kernel
theorem d_TrustDesk_marks_57 : decode kY_TrustDesk_marks.2.1 57 = .ok (.iconst (-1), 1) := by decide +kernel
theorem d_TrustDesk_marks_58 : decode kY_TrustDesk_marks.2.1 58 = .ok (.ixor, 1) := by decide +kernel
theorem d_TrustDesk_marks_59 : decode kY_TrustDesk_marks.2.1 59 = .ok (.iand, 1) := by decide +kernel
theorem d_TrustDesk_marks_60 : decode kY_TrustDesk_marks.2.1 60 = .ok (.invokestatic 337, 3) := by decide +kernel
theorem d_TrustDesk_marks_63 : decode kY_TrustDesk_marks.2.1 63 = .ok (.ireturn, 1) := by decide +kernel
theorem d_TrustDesk_marks_44 : decode kY_TrustDesk_marks.2.1 44 = .ok (.aload 5, 2) := by decide +kernel
theorem d_TrustDesk_marks_46 : decode kY_TrustDesk_marks.2.1 46 = .ok (.getfield 383, 3) := by decide +kernel
theorem d_TrustDesk_marks_49 : decode kY_TrustDesk_marks.2.1 49 = .ok (.goto 10, 3) := by decide +kernel
def w_TrustDesk_marks : List Nat := []
theorem tc_TrustDesk_marks {g : mj_G} {l : Launch} {d : Nat} {T0 : tm_H} {M0 : mj_M} {n0 x9 : Nat} {o0 : Nat} {x1 : Int32} {x2 : Int32} {x3 : Int32} (h_o0 : T0 o0 = some (0, 12, 0)) (I0 : tm_I tm_FT (tm_in w_TrustDesk_marks) x9 T0 M0 n0 T0 M0 n0) : mj_Met g l kY_TrustDesk_marks (d + 4) [.ref o0, .int x1, .int x2, .int x3] M0 n0 0 0 (tm_Q tm_FT (tm_in w_TrustDesk_marks) x9 T0 M0 n0 (fun r _ _ => ∃ v : Int32, r = some (.int v))) := by
  refine mj_enter (by decide) (Nat.le_of_ble_eq_true rfl) ?_
  refine mv_aload_n d_TrustDesk_marks_0 rfl rfl ?_
  refine mv_iload_n d_TrustDesk_marks_1 rfl rfl ?_
  obtain ⟨_, b7, -⟩ := I0.1 _ _ h_o0
  refine mv_callV (kc' := 0) (ks' := 0) (As := [.int x1]) (st9 := [.int x1, .ref o0]) d_TrustDesk_marks_2 lV_TrustDesk_257 b7 rfl (tc_TrustDesk_fundAt (d := d) (x9 := x9) (o0 := o0) (x1 := x1) h_o0 I0.start) rfl (Nat.le_of_ble_eq_true rfl) (Nat.le_of_ble_eq_true rfl) (Nat.le_of_ble_eq_true rfl) (hst := rfl) (fun b1r M2 n3 b1 => ?_)
  obtain ⟨T4, J5, b9⟩ := b1
  have I6 := I0.call J5 (tm_sub (by decide)) (Or.inl rfl)
  have t10 := J5.up h_o0
  rcases b9 with rfl | ⟨a8, rfl, t_a8⟩
  · refine mv_astoreN (lv' := [(4, .null), (0, .ref o0), (1, .int x1), (2, .int x2), (3, .int x3)]) d_TrustDesk_marks_5 (by decide) rfl ?_
    refine mv_aload_n d_TrustDesk_marks_7 rfl rfl ?_
    refine mv_iload_n d_TrustDesk_marks_8 rfl rfl ?_
    obtain ⟨_, b17, -⟩ := I6.1 _ _ t10
    refine mv_callV (kc' := 0) (ks' := 0) (As := [.int x2]) (st9 := [.int x2, .ref o0]) d_TrustDesk_marks_9 lV_TrustDesk_276 b17 rfl (tc_TrustDesk_nearAt (d := d) (x9 := x9) (o0 := o0) (x1 := x2) t10 I6.start) rfl (Nat.le_of_ble_eq_true rfl) (Nat.le_of_ble_eq_true rfl) (Nat.le_of_ble_eq_true rfl) (hst := rfl) (fun b11r M12 n13 b11 => ?_)
    obtain ⟨T14, J15, b19⟩ := b11
    have I16 := I6.call J15 (tm_sub (by decide)) (Or.inl rfl)
    have t20 := J15.up t10
    rcases b19 with rfl | ⟨a18, rfl, t_a18⟩
    · refine mv_astoreN (lv' := [(5, .null), (4, .null), (0, .ref o0), (1, .int x1), (2, .int x2), (3, .int x3)]) d_TrustDesk_marks_12 (by decide) rfl ?_
      refine mv_aloadN d_TrustDesk_marks_14 rfl ?_
      refine mv_ifnullN (tgt := 33) d_TrustDesk_marks_16 (by decide) ?_
      refine mv_iconst (v := (-1)) d_TrustDesk_marks_33 (by decide) ?_
      exact mv_iret d_TrustDesk_marks_34 rfl (by first | rfl | decide) ⟨_, I16, _, rfl⟩
    · refine mv_astore (lv' := [(5, .ref a18), (4, .null), (0, .ref o0), (1, .int x1), (2, .int x2), (3, .int x3)]) d_TrustDesk_marks_12 (by decide) rfl ?_
      refine mv_aloadN d_TrustDesk_marks_14 rfl ?_
      refine mv_ifnullN (tgt := 33) d_TrustDesk_marks_16 (by decide) ?_
      refine mv_iconst (v := (-1)) d_TrustDesk_marks_33 (by decide) ?_
      exact mv_iret d_TrustDesk_marks_34 rfl (by first | rfl | decide) ⟨_, I16, _, rfl⟩
  · refine mv_astore (lv' := [(4, .ref a8), (0, .ref o0), (1, .int x1), (2, .int x2), (3, .int x3)]) d_TrustDesk_marks_5 (by decide) rfl ?_
    refine mv_aload_n d_TrustDesk_marks_7 rfl rfl ?_
    refine mv_iload_n d_TrustDesk_marks_8 rfl rfl ?_
    obtain ⟨_, b27, -⟩ := I6.1 _ _ t10
    refine mv_callV (kc' := 0) (ks' := 0) (As := [.int x2]) (st9 := [.int x2, .ref o0]) d_TrustDesk_marks_9 lV_TrustDesk_276 b27 rfl (tc_TrustDesk_nearAt (d := d) (x9 := x9) (o0 := o0) (x1 := x2) t10 I6.start) rfl (Nat.le_of_ble_eq_true rfl) (Nat.le_of_ble_eq_true rfl) (Nat.le_of_ble_eq_true rfl) (hst := rfl) (fun b21r M22 n23 b21 => ?_)
    obtain ⟨T24, J25, b29⟩ := b21
    have I26 := I6.call J25 (tm_sub (by decide)) (Or.inl rfl)
    have t30 := J25.up t_a8
    have t31 := J25.up t10
    rcases b29 with rfl | ⟨a28, rfl, t_a28⟩
    · refine mv_astoreN (lv' := [(5, .null), (4, .ref a8), (0, .ref o0), (1, .int x1), (2, .int x2), (3, .int x3)]) d_TrustDesk_marks_12 (by decide) rfl ?_
      refine mv_aload d_TrustDesk_marks_14 rfl ?_
      refine mv_ifnull d_TrustDesk_marks_16 ?_
      refine mv_aloadN d_TrustDesk_marks_19 rfl ?_
      refine mv_ifnullN (tgt := 33) d_TrustDesk_marks_21 (by decide) ?_
      refine mv_iconst (v := (-1)) d_TrustDesk_marks_33 (by decide) ?_
      exact mv_iret d_TrustDesk_marks_34 rfl (by first | rfl | decide) ⟨_, I26, _, rfl⟩
    · refine mv_astore (lv' := [(5, .ref a28), (4, .ref a8), (0, .ref o0), (1, .int x1), (2, .int x2), (3, .int x3)]) d_TrustDesk_marks_12 (by decide) rfl ?_
      refine mv_aload d_TrustDesk_marks_14 rfl ?_
      refine mv_ifnull d_TrustDesk_marks_16 ?_
      refine mv_aload d_TrustDesk_marks_19 rfl ?_
      refine mv_ifnull d_TrustDesk_marks_21 ?_
      refine mv_iload_n d_TrustDesk_marks_24 rfl rfl ?_
      have := mz_hi x3
      refine mv_if_ltZ (tgt := 33) (a := x3.toInt) d_TrustDesk_marks_25 (by decide) rfl (fun b32 => ?_) (fun b32 => ?_)
      · refine mv_iconst (v := (-1)) d_TrustDesk_marks_33 (by decide) ?_
        exact mv_iret d_TrustDesk_marks_34 rfl (by first | rfl | decide) ⟨_, I26, _, rfl⟩
      · refine mv_iload_n d_TrustDesk_marks_28 rfl rfl ?_
        refine mv_iconst (v := 1) d_TrustDesk_marks_29 (by decide) ?_
        have := mz_hi x3
        refine mv_icmp_leZ (tgt := 35) (a := x3.toInt) (b := 1) d_TrustDesk_marks_30 (by decide) rfl (by decide) (fun b33 => ?_) (fun b33 => ?_)
        · refine mv_aload d_TrustDesk_marks_35 rfl ?_
          obtain ⟨v35, q34⟩ := tm_atI I26 t30 (k := 4) rfl
          refine tr_getK q34 d_TrustDesk_marks_37 f_TrustDesk_372_6 ?_
          refine mv_iload_n d_TrustDesk_marks_40 rfl rfl ?_
          have := mz_hi x3
          refine mv_if_neZ (tgt := 52) (a := x3.toInt) d_TrustDesk_marks_41 (by decide) rfl (fun b36 => ?_) (fun b36 => ?_)
          · refine mv_aload d_TrustDesk_marks_52 rfl ?_
            obtain ⟨v38, q37⟩ := tm_atI I26 t_a28 (k := 1) rfl
            refine tr_getK q37 d_TrustDesk_marks_54 f_TrustDesk_383_8 ?_
            refine mv_iconst (v := (-1)) d_TrustDesk_marks_57 (by decide) ?_
            refine mv_ixor d_TrustDesk_marks_58 ?_
            refine mv_iand d_TrustDesk_marks_59 ?_
            refine mv_callS (kc' := 0) (ks' := 0) (As := [.int (v35 &&& (v38 ^^^ (-1)))]) (st9 := [.int (v35 &&& (v38 ^^^ (-1)))]) d_TrustDesk_marks_60 lS_TrustDesk_337 (tc_Integer_bitCount (d := (d + 3)) (x9 := x9) (x1 := (v35 &&& (v38 ^^^ (-1))))  I26.start) rfl (Nat.le_of_ble_eq_true rfl) (Nat.le_of_ble_eq_true rfl) (Nat.le_of_ble_eq_true rfl) (hst := rfl) (fun b39r M40 n41 b39 => ?_)
            obtain ⟨T42, J43, v45, rfl⟩ := b39
            have I44 := I26.call J43 (tm_sub (by decide)) (Or.inl rfl)
            have t46 := J43.up t_a28
            have t47 := J43.up t30
            have t48 := J43.up t31
            have q49 := J43.keep t30 (by decide) q34
            have q50 := J43.keep t_a28 (by decide) q37
            exact mv_iret d_TrustDesk_marks_63 rfl (by first | rfl | decide) ⟨_, I44, _, rfl⟩
          · refine mv_aload d_TrustDesk_marks_44 rfl ?_
            obtain ⟨v52, q51⟩ := tm_atI I26 t_a28 (k := 1) rfl
            refine tr_getK q51 d_TrustDesk_marks_46 f_TrustDesk_383_8 ?_
            refine mv_goto (tgt := 59) d_TrustDesk_marks_49 (by decide) ?_
            refine mv_iand d_TrustDesk_marks_59 ?_
            refine mv_callS (kc' := 0) (ks' := 0) (As := [.int (v35 &&& v52)]) (st9 := [.int (v35 &&& v52)]) d_TrustDesk_marks_60 lS_TrustDesk_337 (tc_Integer_bitCount (d := (d + 3)) (x9 := x9) (x1 := (v35 &&& v52))  I26.start) rfl (Nat.le_of_ble_eq_true rfl) (Nat.le_of_ble_eq_true rfl) (Nat.le_of_ble_eq_true rfl) (hst := rfl) (fun b53r M54 n55 b53 => ?_)
            obtain ⟨T56, J57, v59, rfl⟩ := b53
            have I58 := I26.call J57 (tm_sub (by decide)) (Or.inl rfl)
            have t60 := J57.up t_a28
            have t61 := J57.up t30
            have t62 := J57.up t31
            have q63 := J57.keep t30 (by decide) q34
            have q64 := J57.keep t_a28 (by decide) q51
            exact mv_iret d_TrustDesk_marks_63 rfl (by first | rfl | decide) ⟨_, I58, _, rfl⟩
        · refine mv_iconst (v := (-1)) d_TrustDesk_marks_33 (by decide) ?_
          exact mv_iret d_TrustDesk_marks_34 rfl (by first | rfl | decide) ⟨_, I26, _, rfl⟩
abbrev kY_TrustDesk_marksLeft : mj_Y := (⟨"TrustDesk", "marksLeft", "(LTrustDesk$Scheme;LTrustDesk$Fund;)I"⟩, prog_1_method_29_code, 4, (Option.some Jvm.ClassFile.FieldType.int))
theorem d_TrustDesk_marksLeft_0 : decode kY_TrustDesk_marksLeft.2.1 0 = .ok (.aload_n 1, 1) := by decide +kernel
theorem d_TrustDesk_marksLeft_1 : decode kY_TrustDesk_marksLeft.2.1 1 = .ok (.getfield 308, 3) := by decide +kernel
theorem d_TrustDesk_marksLeft_4 : decode kY_TrustDesk_marksLeft.2.1 4 = .ok (.ifCond .ne 30, 3) := by decide +kernel
theorem d_TrustDesk_marksLeft_34 : decode kY_TrustDesk_marksLeft.2.1 34 = .ok (.aload_n 1, 1) := by decide +kernel
theorem d_TrustDesk_marksLeft_35 : decode kY_TrustDesk_marksLeft.2.1 35 = .ok (.getfield 308, 3) := by decide +kernel
theorem d_TrustDesk_marksLeft_38 : decode kY_TrustDesk_marksLeft.2.1 38 = .ok (.iconst 1, 1) := by decide +kernel
theorem d_TrustDesk_marksLeft_39 : decode kY_TrustDesk_marksLeft.2.1 39 = .ok (.if_icmp .ne 30, 3) := by decide +kernel
theorem d_TrustDesk_marksLeft_69 : decode kY_TrustDesk_marksLeft.2.1 69 = .ok (.aload_n 2, 1) := by decide +kernel
theorem d_TrustDesk_marksLeft_70 : decode kY_TrustDesk_marksLeft.2.1 70 = .ok (.getfield 372, 3) := by decide +kernel
theorem d_TrustDesk_marksLeft_73 : decode kY_TrustDesk_marksLeft.2.1 73 = .ok (.ireturn, 1) := by decide +kernel
theorem d_TrustDesk_marksLeft_42 : decode kY_TrustDesk_marksLeft.2.1 42 = .ok (.aload_n 0, 1) := by decide +kernel
theorem d_TrustDesk_marksLeft_43 : decode kY_TrustDesk_marksLeft.2.1 43 = .ok (.aload_n 1, 1) := by decide +kernel
theorem d_TrustDesk_marksLeft_44 : decode kY_TrustDesk_marksLeft.2.1 44 = .ok (.getfield 311, 3) := by decide +kernel
theorem d_TrustDesk_marksLeft_47 : decode kY_TrustDesk_marksLeft.2.1 47 = .ok (.invokevirtual 257, 3) := by decide +kernel
theorem d_TrustDesk_marksLeft_50 : decode kY_TrustDesk_marksLeft.2.1 50 = .ok (.astore_n 3, 1) := by decide +kernel
theorem d_TrustDesk_marksLeft_51 : decode kY_TrustDesk_marksLeft.2.1 51 = .ok (.aload_n 3, 1) := by decide +kernel
theorem d_TrustDesk_marksLeft_52 : decode kY_TrustDesk_marksLeft.2.1 52 = .ok (.ifnonnull 7, 3) := by decide +kernel
theorem d_TrustDesk_marksLeft_55 : decode kY_TrustDesk_marksLeft.2.1 55 = .ok (.iconst 0, 1) := by decide +kernel
theorem d_TrustDesk_marksLeft_56 : decode kY_TrustDesk_marksLeft.2.1 56 = .ok (.goto 12, 3) := by decide +kernel
theorem d_TrustDesk_marksLeft_68 : decode kY_TrustDesk_marksLeft.2.1 68 = .ok (.ireturn, 1) := by decide +kernel
theorem d_TrustDesk_marksLeft_59 : decode kY_TrustDesk_marksLeft.2.1 59 = .ok (.aload_n 3, 1) := by decide +kernel
theorem d_TrustDesk_marksLeft_60 : decode kY_TrustDesk_marksLeft.2.1 60 = .ok (.getfield 372, 3) := by decide +kernel
theorem d_TrustDesk_marksLeft_63 : decode kY_TrustDesk_marksLeft.2.1 63 = .ok (.aload_n 2, 1) := by decide +kernel
theorem d_TrustDesk_marksLeft_64 : decode kY_TrustDesk_marksLeft.2.1 64 = .ok (.getfield 372, 3) := by decide +kernel
theorem d_TrustDesk_marksLeft_67 : decode kY_TrustDesk_marksLeft.2.1 67 = .ok (.iand, 1) := by decide +kernel
theorem d_TrustDesk_marksLeft_7 : decode kY_TrustDesk_marksLeft.2.1 7 = .ok (.aload_n 0, 1) := by decide +kernel
theorem d_TrustDesk_marksLeft_8 : decode kY_TrustDesk_marksLeft.2.1 8 = .ok (.aload_n 1, 1) := by decide +kernel
theorem d_TrustDesk_marksLeft_9 : decode kY_TrustDesk_marksLeft.2.1 9 = .ok (.getfield 311, 3) := by decide +kernel
theorem d_TrustDesk_marksLeft_12 : decode kY_TrustDesk_marksLeft.2.1 12 = .ok (.invokevirtual 276, 3) := by decide +kernel
theorem d_TrustDesk_marksLeft_15 : decode kY_TrustDesk_marksLeft.2.1 15 = .ok (.astore_n 3, 1) := by decide +kernel
theorem d_TrustDesk_marksLeft_16 : decode kY_TrustDesk_marksLeft.2.1 16 = .ok (.aload_n 3, 1) := by decide +kernel
theorem d_TrustDesk_marksLeft_17 : decode kY_TrustDesk_marksLeft.2.1 17 = .ok (.ifnonnull 7, 3) := by decide +kernel
theorem d_TrustDesk_marksLeft_20 : decode kY_TrustDesk_marksLeft.2.1 20 = .ok (.iconst 0, 1) := by decide +kernel
theorem d_TrustDesk_marksLeft_21 : decode kY_TrustDesk_marksLeft.2.1 21 = .ok (.goto 12, 3) := by decide +kernel
theorem d_TrustDesk_marksLeft_33 : decode kY_TrustDesk_marksLeft.2.1 33 = .ok (.ireturn, 1) := by decide +kernel
theorem d_TrustDesk_marksLeft_24 : decode kY_TrustDesk_marksLeft.2.1 24 = .ok (.aload_n 3, 1) := by decide +kernel
theorem d_TrustDesk_marksLeft_25 : decode kY_TrustDesk_marksLeft.2.1 25 = .ok (.getfield 383, 3) := by decide +kernel
theorem d_TrustDesk_marksLeft_28 : decode kY_TrustDesk_marksLeft.2.1 28 = .ok (.aload_n 2, 1) := by decide +kernel
theorem d_TrustDesk_marksLeft_29 : decode kY_TrustDesk_marksLeft.2.1 29 = .ok (.getfield 372, 3) := by decide +kernel
theorem d_TrustDesk_marksLeft_32 : decode kY_TrustDesk_marksLeft.2.1 32 = .ok (.iand, 1) := by decide +kernel
def w_TrustDesk_marksLeft : List Nat := []
theorem tc_TrustDesk_marksLeft {g : mj_G} {l : Launch} {d : Nat} {T0 : tm_H} {M0 : mj_M} {n0 x9 : Nat} {o0 : Nat} {o1 : Nat} {o2 : Nat} (h_o0 : T0 o0 = some (0, 12, 0)) (h_o1 : T0 o1 = some (0, 11, 0)) (h_o2 : T0 o2 = some (0, 6, 0)) (I0 : tm_I tm_FT (tm_in w_TrustDesk_marksLeft) x9 T0 M0 n0 T0 M0 n0) : mj_Met g l kY_TrustDesk_marksLeft (d + 4) [.ref o0, .ref o1, .ref o2] M0 n0 0 0 (tm_Q tm_FT (tm_in w_TrustDesk_marksLeft) x9 T0 M0 n0 (fun r _ _ => ∃ v : Int32, r = some (.int v))) := by
  refine mj_enter (by decide) (Nat.le_of_ble_eq_true rfl) ?_
  refine mv_aload_n d_TrustDesk_marksLeft_0 rfl rfl ?_
  obtain ⟨v2, q1⟩ := tm_atI I0 h_o1 (k := 0) rfl
  refine tr_getK q1 d_TrustDesk_marksLeft_1 f_TrustDesk_308_11 ?_
  have := mz_hi v2
  refine mv_if_neZ (tgt := 34) (a := v2.toInt) d_TrustDesk_marksLeft_4 (by decide) rfl (fun b3 => ?_) (fun b3 => ?_)
  · refine mv_aload_n d_TrustDesk_marksLeft_34 rfl rfl ?_
    refine tr_getK (k := 0) q1 d_TrustDesk_marksLeft_35 f_TrustDesk_308_11 ?_
    refine mv_iconst (v := 1) d_TrustDesk_marksLeft_38 (by decide) ?_
    have := mz_hi v2
    refine mv_icmp_neZ (tgt := 69) (a := v2.toInt) (b := 1) d_TrustDesk_marksLeft_39 (by decide) rfl (by decide) (fun b4 => ?_) (fun b4 => ?_)
    · refine mv_aload_n d_TrustDesk_marksLeft_69 rfl rfl ?_
      obtain ⟨v6, q5⟩ := tm_atI I0 h_o2 (k := 4) rfl
      refine tr_getK q5 d_TrustDesk_marksLeft_70 f_TrustDesk_372_6 ?_
      exact mv_iret d_TrustDesk_marksLeft_73 rfl (by first | rfl | decide) ⟨_, I0, _, rfl⟩
    · refine mv_aload_n d_TrustDesk_marksLeft_42 rfl rfl ?_
      refine mv_aload_n d_TrustDesk_marksLeft_43 rfl rfl ?_
      obtain ⟨v8, q7⟩ := tm_atI I0 h_o1 (k := 2) rfl
      refine tr_getK q7 d_TrustDesk_marksLeft_44 f_TrustDesk_311_11 ?_
      obtain ⟨_, b15, -⟩ := I0.1 _ _ h_o0
      refine mv_callV (kc' := 0) (ks' := 0) (As := [.int v8]) (st9 := [.int v8, .ref o0]) d_TrustDesk_marksLeft_47 lV_TrustDesk_257 b15 rfl (tc_TrustDesk_fundAt (d := d) (x9 := x9) (o0 := o0) (x1 := v8) h_o0 I0.start) rfl (Nat.le_of_ble_eq_true rfl) (Nat.le_of_ble_eq_true rfl) (Nat.le_of_ble_eq_true rfl) (hst := rfl) (fun b9r M10 n11 b9 => ?_)
      obtain ⟨T12, J13, b17⟩ := b9
      have I14 := I0.call J13 (tm_sub (by decide)) (Or.inl rfl)
      have t18 := J13.up h_o0
      have t19 := J13.up h_o1
      have t20 := J13.up h_o2
      have q21 := J13.keep h_o1 (by decide) q1
      have q22 := J13.keep h_o1 (by decide) q7
      rcases b17 with rfl | ⟨a16, rfl, t_a16⟩
      · refine mv_astore_nN (lv' := [(3, .null), (0, .ref o0), (1, .ref o1), (2, .ref o2)]) d_TrustDesk_marksLeft_50 rfl (by decide) rfl ?_
        refine mv_aload_nN d_TrustDesk_marksLeft_51 rfl rfl ?_
        refine mv_ifnonnullN d_TrustDesk_marksLeft_52 ?_
        refine mv_iconst (v := 0) d_TrustDesk_marksLeft_55 (by decide) ?_
        refine mv_goto (tgt := 68) d_TrustDesk_marksLeft_56 (by decide) ?_
        exact mv_iret d_TrustDesk_marksLeft_68 rfl (by first | rfl | decide) ⟨_, I14, _, rfl⟩
      · refine mv_astore_n (lv' := [(3, .ref a16), (0, .ref o0), (1, .ref o1), (2, .ref o2)]) d_TrustDesk_marksLeft_50 rfl (by decide) rfl ?_
        refine mv_aload_n d_TrustDesk_marksLeft_51 rfl rfl ?_
        refine mv_ifnonnull (tgt := 59) d_TrustDesk_marksLeft_52 (by decide) ?_
        refine mv_aload_n d_TrustDesk_marksLeft_59 rfl rfl ?_
        obtain ⟨v24, q23⟩ := tm_atI I14 t_a16 (k := 4) rfl
        refine tr_getK q23 d_TrustDesk_marksLeft_60 f_TrustDesk_372_6 ?_
        refine mv_aload_n d_TrustDesk_marksLeft_63 rfl rfl ?_
        obtain ⟨v26, q25⟩ := tm_atI I14 t20 (k := 4) rfl
        refine tr_getK q25 d_TrustDesk_marksLeft_64 f_TrustDesk_372_6 ?_
        refine mv_iand d_TrustDesk_marksLeft_67 ?_
        exact mv_iret d_TrustDesk_marksLeft_68 rfl (by first | rfl | decide) ⟨_, I14, _, rfl⟩
  · refine mv_aload_n d_TrustDesk_marksLeft_7 rfl rfl ?_
    refine mv_aload_n d_TrustDesk_marksLeft_8 rfl rfl ?_
    obtain ⟨v28, q27⟩ := tm_atI I0 h_o1 (k := 2) rfl
    refine tr_getK q27 d_TrustDesk_marksLeft_9 f_TrustDesk_311_11 ?_
    obtain ⟨_, b35, -⟩ := I0.1 _ _ h_o0
    refine mv_callV (kc' := 0) (ks' := 0) (As := [.int v28]) (st9 := [.int v28, .ref o0]) d_TrustDesk_marksLeft_12 lV_TrustDesk_276 b35 rfl (tc_TrustDesk_nearAt (d := d) (x9 := x9) (o0 := o0) (x1 := v28) h_o0 I0.start) rfl (Nat.le_of_ble_eq_true rfl) (Nat.le_of_ble_eq_true rfl) (Nat.le_of_ble_eq_true rfl) (hst := rfl) (fun b29r M30 n31 b29 => ?_)
    obtain ⟨T32, J33, b37⟩ := b29
    have I34 := I0.call J33 (tm_sub (by decide)) (Or.inl rfl)
    have t38 := J33.up h_o0
    have t39 := J33.up h_o1
    have t40 := J33.up h_o2
    have q41 := J33.keep h_o1 (by decide) q1
    have q42 := J33.keep h_o1 (by decide) q27
    rcases b37 with rfl | ⟨a36, rfl, t_a36⟩
    · refine mv_astore_nN (lv' := [(3, .null), (0, .ref o0), (1, .ref o1), (2, .ref o2)]) d_TrustDesk_marksLeft_15 rfl (by decide) rfl ?_
      refine mv_aload_nN d_TrustDesk_marksLeft_16 rfl rfl ?_
      refine mv_ifnonnullN d_TrustDesk_marksLeft_17 ?_
      refine mv_iconst (v := 0) d_TrustDesk_marksLeft_20 (by decide) ?_
      refine mv_goto (tgt := 33) d_TrustDesk_marksLeft_21 (by decide) ?_
      exact mv_iret d_TrustDesk_marksLeft_33 rfl (by first | rfl | decide) ⟨_, I34, _, rfl⟩
    · refine mv_astore_n (lv' := [(3, .ref a36), (0, .ref o0), (1, .ref o1), (2, .ref o2)]) d_TrustDesk_marksLeft_15 rfl (by decide) rfl ?_
      refine mv_aload_n d_TrustDesk_marksLeft_16 rfl rfl ?_
      refine mv_ifnonnull (tgt := 24) d_TrustDesk_marksLeft_17 (by decide) ?_
      refine mv_aload_n d_TrustDesk_marksLeft_24 rfl rfl ?_
      obtain ⟨v44, q43⟩ := tm_atI I34 t_a36 (k := 1) rfl
      refine tr_getK q43 d_TrustDesk_marksLeft_25 f_TrustDesk_383_8 ?_
      refine mv_aload_n d_TrustDesk_marksLeft_28 rfl rfl ?_
      obtain ⟨v46, q45⟩ := tm_atI I34 t40 (k := 4) rfl
      refine tr_getK q45 d_TrustDesk_marksLeft_29 f_TrustDesk_372_6 ?_
      refine mv_iand d_TrustDesk_marksLeft_32 ?_
      exact mv_iret d_TrustDesk_marksLeft_33 rfl (by first | rfl | decide) ⟨_, I34, _, rfl⟩
abbrev kY_TrustDesk_maySpeak : mj_Y := (⟨"TrustDesk", "maySpeak", "(LTrustDesk$Scheme;I)Z"⟩, prog_1_method_23_code, 5, (Option.some Jvm.ClassFile.FieldType.boolean))
theorem d_TrustDesk_maySpeak_0 : decode kY_TrustDesk_maySpeak.2.1 0 = .ok (.aload_n 0, 1) := by decide +kernel
theorem d_TrustDesk_maySpeak_1 : decode kY_TrustDesk_maySpeak.2.1 1 = .ok (.aload_n 1, 1) := by decide +kernel
theorem d_TrustDesk_maySpeak_2 : decode kY_TrustDesk_maySpeak.2.1 2 = .ok (.getfield 302, 3) := by decide +kernel
theorem f_TrustDesk_302_11 : mj_fl "TrustDesk" 302 11 1 := ⟨kR_Scheme, kF_Scheme, 12, "TrustDesk$Scheme", rfl, kg_11, by decide, (mj_in1 (List.mem_of_getElem? (i := 970) (by decide +kernel)) rfl), Or.inl rfl⟩
theorem d_TrustDesk_maySpeak_5 : decode kY_TrustDesk_maySpeak.2.1 5 = .ok (.invokevirtual 257, 3) := by decide +kernel
theorem d_TrustDesk_maySpeak_8 : decode kY_TrustDesk_maySpeak.2.1 8 = .ok (.astore_n 3, 1) := by decide +kernel
theorem d_TrustDesk_maySpeak_9 : decode kY_TrustDesk_maySpeak.2.1 9 = .ok (.aload_n 3, 1) := by decide +kernel
theorem d_TrustDesk_maySpeak_10 : decode kY_TrustDesk_maySpeak.2.1 10 = .ok (.ifnull 13, 3) := by decide +kernel
theorem d_TrustDesk_maySpeak_23 : decode kY_TrustDesk_maySpeak.2.1 23 = .ok (.aload_n 1, 1) := by decide +kernel
theorem d_TrustDesk_maySpeak_24 : decode kY_TrustDesk_maySpeak.2.1 24 = .ok (.getfield 308, 3) := by decide +kernel
theorem d_TrustDesk_maySpeak_27 : decode kY_TrustDesk_maySpeak.2.1 27 = .ok (.iconst 1, 1) := by decide +kernel
theorem d_TrustDesk_maySpeak_28 : decode kY_TrustDesk_maySpeak.2.1 28 = .ok (.if_icmp .ne 14, 3) := by decide +kernel
theorem d_TrustDesk_maySpeak_42 : decode kY_TrustDesk_maySpeak.2.1 42 = .ok (.aconst_null, 1) := by decide +kernel
theorem d_TrustDesk_maySpeak_43 : decode kY_TrustDesk_maySpeak.2.1 43 = .ok (.astore 4, 2) := by decide +kernel
theorem d_TrustDesk_maySpeak_45 : decode kY_TrustDesk_maySpeak.2.1 45 = .ok (.aload 4, 2) := by decide +kernel
theorem d_TrustDesk_maySpeak_47 : decode kY_TrustDesk_maySpeak.2.1 47 = .ok (.ifnull 16, 3) := by decide +kernel
theorem d_TrustDesk_maySpeak_63 : decode kY_TrustDesk_maySpeak.2.1 63 = .ok (.iconst 0, 1) := by decide +kernel
theorem d_TrustDesk_maySpeak_64 : decode kY_TrustDesk_maySpeak.2.1 64 = .ok (.ireturn, 1) := by decide +kernel
theorem d_TrustDesk_maySpeak_31 : decode kY_TrustDesk_maySpeak.2.1 31 = .ok (.aload_n 0, 1) := by decide +kernel
theorem d_TrustDesk_maySpeak_32 : decode kY_TrustDesk_maySpeak.2.1 32 = .ok (.aload_n 1, 1) := by decide +kernel
theorem d_TrustDesk_maySpeak_33 : decode kY_TrustDesk_maySpeak.2.1 33 = .ok (.getfield 311, 3) := by decide +kernel
theorem d_TrustDesk_maySpeak_36 : decode kY_TrustDesk_maySpeak.2.1 36 = .ok (.invokevirtual 257, 3) := by decide +kernel
theorem d_TrustDesk_maySpeak_39 : decode kY_TrustDesk_maySpeak.2.1 39 = .ok (.goto 4, 3) := by decide +kernel
theorem d_TrustDesk_maySpeak_50 : decode kY_TrustDesk_maySpeak.2.1 50 = .ok (.aload 4, 2) := by decide +kernel
theorem d_TrustDesk_maySpeak_52 : decode kY_TrustDesk_maySpeak.2.1 52 = .ok (.iload_n 2, 1) := by decide +kernel
theorem d_TrustDesk_maySpeak_53 : decode kY_TrustDesk_maySpeak.2.1 53 = .ok (.invokevirtual 305, 3) := by decide +kernel
theorem lV_TrustDesk_305 : mj_lV "TrustDesk" 305 kY_Fund_hasTrustee 1 := ⟨⟨(mj_in1 (List.mem_of_getElem? (i := 1041) (by decide +kernel)) rfl), (mj_in1 (List.mem_of_getElem? (i := 21) (by decide +kernel)) rfl), (mj_in1 (List.mem_of_getElem? (i := 1044) (by decide +kernel)) rfl), by decide, rfl, by decide⟩, (mj_in1 (List.mem_of_getElem? (i := 1042) (by decide +kernel)) rfl), (mj_in1 (List.mem_of_getElem? (i := 1043) (by decide +kernel)) rfl)⟩
theorem d_TrustDesk_maySpeak_56 : decode kY_TrustDesk_maySpeak.2.1 56 = .ok (.ifCond .eq 7, 3) := by decide +kernel
theorem d_TrustDesk_maySpeak_59 : decode kY_TrustDesk_maySpeak.2.1 59 = .ok (.iconst 1, 1) := by decide +kernel
theorem d_TrustDesk_maySpeak_60 : decode kY_TrustDesk_maySpeak.2.1 60 = .ok (.goto 4, 3) := by decide +kernel
theorem d_TrustDesk_maySpeak_13 : decode kY_TrustDesk_maySpeak.2.1 13 = .ok (.aload_n 3, 1) := by decide +kernel
theorem d_TrustDesk_maySpeak_14 : decode kY_TrustDesk_maySpeak.2.1 14 = .ok (.iload_n 2, 1) := by decide +kernel
theorem d_TrustDesk_maySpeak_15 : decode kY_TrustDesk_maySpeak.2.1 15 = .ok (.invokevirtual 305, 3) := by decide +kernel
theorem d_TrustDesk_maySpeak_18 : decode kY_TrustDesk_maySpeak.2.1 18 = .ok (.ifCond .eq 5, 3) := by decide +kernel
theorem d_TrustDesk_maySpeak_21 : decode kY_TrustDesk_maySpeak.2.1 21 = .ok (.iconst 1, 1) := by decide +kernel
theorem d_TrustDesk_maySpeak_22 : decode kY_TrustDesk_maySpeak.2.1 22 = .ok (.ireturn, 1) := by decide +kernel
def w_TrustDesk_maySpeak : List Nat := []
theorem tc_TrustDesk_maySpeak {g : mj_G} {l : Launch} {d : Nat} {T0 : tm_H} {M0 : mj_M} {n0 x9 : Nat} {o0 : Nat} {o1 : Nat} {x2 : Int32} (h_o0 : T0 o0 = some (0, 12, 0)) (h_o1 : T0 o1 = some (0, 11, 0)) (I0 : tm_I tm_FT (tm_in w_TrustDesk_maySpeak) x9 T0 M0 n0 T0 M0 n0) : mj_Met g l kY_TrustDesk_maySpeak (d + 4) [.ref o0, .ref o1, .int x2] M0 n0 0 0 (tm_Q tm_FT (tm_in w_TrustDesk_maySpeak) x9 T0 M0 n0 (fun r _ _ => ∃ v : Int32, r = some (.int v) ∧ 0 ≤ v.toInt ∧ v.toInt ≤ 1)) := by
  refine mj_enter (by decide) (Nat.le_of_ble_eq_true rfl) ?_
  refine mv_aload_n d_TrustDesk_maySpeak_0 rfl rfl ?_
  refine mv_aload_n d_TrustDesk_maySpeak_1 rfl rfl ?_
  obtain ⟨v2, q1⟩ := tm_atI I0 h_o1 (k := 1) rfl
  refine tr_getK q1 d_TrustDesk_maySpeak_2 f_TrustDesk_302_11 ?_
  obtain ⟨_, b9, -⟩ := I0.1 _ _ h_o0
  refine mv_callV (kc' := 0) (ks' := 0) (As := [.int v2]) (st9 := [.int v2, .ref o0]) d_TrustDesk_maySpeak_5 lV_TrustDesk_257 b9 rfl (tc_TrustDesk_fundAt (d := d) (x9 := x9) (o0 := o0) (x1 := v2) h_o0 I0.start) rfl (Nat.le_of_ble_eq_true rfl) (Nat.le_of_ble_eq_true rfl) (Nat.le_of_ble_eq_true rfl) (hst := rfl) (fun b3r M4 n5 b3 => ?_)
  obtain ⟨T6, J7, b11⟩ := b3
  have I8 := I0.call J7 (tm_sub (by decide)) (Or.inl rfl)
  have t12 := J7.up h_o0
  have t13 := J7.up h_o1
  have q14 := J7.keep h_o1 (by decide) q1
  rcases b11 with rfl | ⟨a10, rfl, t_a10⟩
  · refine mv_astore_nN (lv' := [(3, .null), (0, .ref o0), (1, .ref o1), (2, .int x2)]) d_TrustDesk_maySpeak_8 rfl (by decide) rfl ?_
    refine mv_aload_nN d_TrustDesk_maySpeak_9 rfl rfl ?_
    refine mv_ifnullN (tgt := 23) d_TrustDesk_maySpeak_10 (by decide) ?_
    refine mv_aload_n d_TrustDesk_maySpeak_23 rfl rfl ?_
    obtain ⟨v16, q15⟩ := tm_atI I8 t13 (k := 0) rfl
    refine tr_getK q15 d_TrustDesk_maySpeak_24 f_TrustDesk_308_11 ?_
    refine mv_iconst (v := 1) d_TrustDesk_maySpeak_27 (by decide) ?_
    have := mz_hi v16
    refine mv_icmp_neZ (tgt := 42) (a := v16.toInt) (b := 1) d_TrustDesk_maySpeak_28 (by decide) rfl (by decide) (fun b17 => ?_) (fun b17 => ?_)
    · refine mv_null d_TrustDesk_maySpeak_42 ?_
      refine mv_astoreN (lv' := [(4, .null), (3, .null), (0, .ref o0), (1, .ref o1), (2, .int x2)]) d_TrustDesk_maySpeak_43 (by decide) rfl ?_
      refine mv_aloadN d_TrustDesk_maySpeak_45 rfl ?_
      refine mv_ifnullN (tgt := 63) d_TrustDesk_maySpeak_47 (by decide) ?_
      refine mv_iconst (v := 0) d_TrustDesk_maySpeak_63 (by decide) ?_
      exact mv_iret d_TrustDesk_maySpeak_64 rfl (by decide) ⟨_, I8, _, rfl, by decide, by decide⟩
    · refine mv_aload_n d_TrustDesk_maySpeak_31 rfl rfl ?_
      refine mv_aload_n d_TrustDesk_maySpeak_32 rfl rfl ?_
      obtain ⟨v19, q18⟩ := tm_atI I8 t13 (k := 2) rfl
      refine tr_getK q18 d_TrustDesk_maySpeak_33 f_TrustDesk_311_11 ?_
      obtain ⟨_, b26, -⟩ := I8.1 _ _ t12
      refine mv_callV (kc' := 0) (ks' := 0) (As := [.int v19]) (st9 := [.int v19, .ref o0]) d_TrustDesk_maySpeak_36 lV_TrustDesk_257 b26 rfl (tc_TrustDesk_fundAt (d := d) (x9 := x9) (o0 := o0) (x1 := v19) t12 I8.start) rfl (Nat.le_of_ble_eq_true rfl) (Nat.le_of_ble_eq_true rfl) (Nat.le_of_ble_eq_true rfl) (hst := rfl) (fun b20r M21 n22 b20 => ?_)
      obtain ⟨T23, J24, b28⟩ := b20
      have I25 := I8.call J24 (tm_sub (by decide)) (Or.inl rfl)
      have t29 := J24.up t12
      have t30 := J24.up t13
      have q31 := J24.keep t13 (by decide) q14
      have q32 := J24.keep t13 (by decide) q15
      have q33 := J24.keep t13 (by decide) q18
      rcases b28 with rfl | ⟨a27, rfl, t_a27⟩
      · refine mv_goto (tgt := 43) d_TrustDesk_maySpeak_39 (by decide) ?_
        refine mv_astoreN (lv' := [(4, .null), (3, .null), (0, .ref o0), (1, .ref o1), (2, .int x2)]) d_TrustDesk_maySpeak_43 (by decide) rfl ?_
        refine mv_aloadN d_TrustDesk_maySpeak_45 rfl ?_
        refine mv_ifnullN (tgt := 63) d_TrustDesk_maySpeak_47 (by decide) ?_
        refine mv_iconst (v := 0) d_TrustDesk_maySpeak_63 (by decide) ?_
        exact mv_iret d_TrustDesk_maySpeak_64 rfl (by decide) ⟨_, I25, _, rfl, by decide, by decide⟩
      · refine mv_goto (tgt := 43) d_TrustDesk_maySpeak_39 (by decide) ?_
        refine mv_astore (lv' := [(4, .ref a27), (3, .null), (0, .ref o0), (1, .ref o1), (2, .int x2)]) d_TrustDesk_maySpeak_43 (by decide) rfl ?_
        refine mv_aload d_TrustDesk_maySpeak_45 rfl ?_
        refine mv_ifnull d_TrustDesk_maySpeak_47 ?_
        refine mv_aload d_TrustDesk_maySpeak_50 rfl ?_
        refine mv_iload_n d_TrustDesk_maySpeak_52 rfl rfl ?_
        obtain ⟨_, b40, -⟩ := I25.1 _ _ t_a27
        refine mv_callV (kc' := 0) (ks' := 0) (As := [.int x2]) (st9 := [.int x2, .ref a27]) d_TrustDesk_maySpeak_53 lV_TrustDesk_305 b40 rfl (tc_Fund_hasTrustee (d := (d + 3)) (x9 := x9) (o0 := a27) (x1 := x2) t_a27 I25.start) rfl (Nat.le_of_ble_eq_true rfl) (Nat.le_of_ble_eq_true rfl) (Nat.le_of_ble_eq_true rfl) (hst := rfl) (fun b34r M35 n36 b34 => ?_)
        obtain ⟨T37, J38, v41, rfl, b42, b43⟩ := b34
        have I39 := I25.call J38 (tm_sub (by decide)) (Or.inl rfl)
        have t44 := J38.up t_a27
        have t45 := J38.up t29
        have t46 := J38.up t30
        have q47 := J38.keep t30 (by decide) q31
        have q48 := J38.keep t30 (by decide) q32
        have q49 := J38.keep t30 (by decide) q33
        have := mz_hi v41
        refine mv_if_eqZ (tgt := 63) (a := v41.toInt) d_TrustDesk_maySpeak_56 (by decide) rfl (fun b50 => ?_) (fun b50 => ?_)
        · refine mv_iconst (v := 0) d_TrustDesk_maySpeak_63 (by decide) ?_
          exact mv_iret d_TrustDesk_maySpeak_64 rfl (by decide) ⟨_, I39, _, rfl, by decide, by decide⟩
        · refine mv_iconst (v := 1) d_TrustDesk_maySpeak_59 (by decide) ?_
          refine mv_goto (tgt := 64) d_TrustDesk_maySpeak_60 (by decide) ?_
          exact mv_iret d_TrustDesk_maySpeak_64 rfl (by decide) ⟨_, I39, _, rfl, by decide, by decide⟩
  · refine mv_astore_n (lv' := [(3, .ref a10), (0, .ref o0), (1, .ref o1), (2, .int x2)]) d_TrustDesk_maySpeak_8 rfl (by decide) rfl ?_
    refine mv_aload_n d_TrustDesk_maySpeak_9 rfl rfl ?_
    refine mv_ifnull d_TrustDesk_maySpeak_10 ?_
    refine mv_aload_n d_TrustDesk_maySpeak_13 rfl rfl ?_
    refine mv_iload_n d_TrustDesk_maySpeak_14 rfl rfl ?_
    obtain ⟨_, b57, -⟩ := I8.1 _ _ t_a10
    refine mv_callV (kc' := 0) (ks' := 0) (As := [.int x2]) (st9 := [.int x2, .ref a10]) d_TrustDesk_maySpeak_15 lV_TrustDesk_305 b57 rfl (tc_Fund_hasTrustee (d := (d + 3)) (x9 := x9) (o0 := a10) (x1 := x2) t_a10 I8.start) rfl (Nat.le_of_ble_eq_true rfl) (Nat.le_of_ble_eq_true rfl) (Nat.le_of_ble_eq_true rfl) (hst := rfl) (fun b51r M52 n53 b51 => ?_)
    obtain ⟨T54, J55, v58, rfl, b59, b60⟩ := b51
    have I56 := I8.call J55 (tm_sub (by decide)) (Or.inl rfl)
    have t61 := J55.up t_a10
    have t62 := J55.up t12
    have t63 := J55.up t13
    have q64 := J55.keep t13 (by decide) q14
    have := mz_hi v58
    refine mv_if_eqZ (tgt := 23) (a := v58.toInt) d_TrustDesk_maySpeak_18 (by decide) rfl (fun b65 => ?_) (fun b65 => ?_)
    · refine mv_aload_n d_TrustDesk_maySpeak_23 rfl rfl ?_
      obtain ⟨v67, q66⟩ := tm_atI I56 t63 (k := 0) rfl
      refine tr_getK q66 d_TrustDesk_maySpeak_24 f_TrustDesk_308_11 ?_
      refine mv_iconst (v := 1) d_TrustDesk_maySpeak_27 (by decide) ?_
      have := mz_hi v67
      refine mv_icmp_neZ (tgt := 42) (a := v67.toInt) (b := 1) d_TrustDesk_maySpeak_28 (by decide) rfl (by decide) (fun b68 => ?_) (fun b68 => ?_)
      · refine mv_null d_TrustDesk_maySpeak_42 ?_
        refine mv_astoreN (lv' := [(4, .null), (3, .ref a10), (0, .ref o0), (1, .ref o1), (2, .int x2)]) d_TrustDesk_maySpeak_43 (by decide) rfl ?_
        refine mv_aloadN d_TrustDesk_maySpeak_45 rfl ?_
        refine mv_ifnullN (tgt := 63) d_TrustDesk_maySpeak_47 (by decide) ?_
        refine mv_iconst (v := 0) d_TrustDesk_maySpeak_63 (by decide) ?_
        exact mv_iret d_TrustDesk_maySpeak_64 rfl (by decide) ⟨_, I56, _, rfl, by decide, by decide⟩
      · refine mv_aload_n d_TrustDesk_maySpeak_31 rfl rfl ?_
        refine mv_aload_n d_TrustDesk_maySpeak_32 rfl rfl ?_
        obtain ⟨v70, q69⟩ := tm_atI I56 t63 (k := 2) rfl
        refine tr_getK q69 d_TrustDesk_maySpeak_33 f_TrustDesk_311_11 ?_
        obtain ⟨_, b77, -⟩ := I56.1 _ _ t62
        refine mv_callV (kc' := 0) (ks' := 0) (As := [.int v70]) (st9 := [.int v70, .ref o0]) d_TrustDesk_maySpeak_36 lV_TrustDesk_257 b77 rfl (tc_TrustDesk_fundAt (d := d) (x9 := x9) (o0 := o0) (x1 := v70) t62 I56.start) rfl (Nat.le_of_ble_eq_true rfl) (Nat.le_of_ble_eq_true rfl) (Nat.le_of_ble_eq_true rfl) (hst := rfl) (fun b71r M72 n73 b71 => ?_)
        obtain ⟨T74, J75, b79⟩ := b71
        have I76 := I56.call J75 (tm_sub (by decide)) (Or.inl rfl)
        have t80 := J75.up t61
        have t81 := J75.up t62
        have t82 := J75.up t63
        have q83 := J75.keep t63 (by decide) q64
        have q84 := J75.keep t63 (by decide) q66
        have q85 := J75.keep t63 (by decide) q69
        rcases b79 with rfl | ⟨a78, rfl, t_a78⟩
        · refine mv_goto (tgt := 43) d_TrustDesk_maySpeak_39 (by decide) ?_
          refine mv_astoreN (lv' := [(4, .null), (3, .ref a10), (0, .ref o0), (1, .ref o1), (2, .int x2)]) d_TrustDesk_maySpeak_43 (by decide) rfl ?_
          refine mv_aloadN d_TrustDesk_maySpeak_45 rfl ?_
          refine mv_ifnullN (tgt := 63) d_TrustDesk_maySpeak_47 (by decide) ?_
          refine mv_iconst (v := 0) d_TrustDesk_maySpeak_63 (by decide) ?_
          exact mv_iret d_TrustDesk_maySpeak_64 rfl (by decide) ⟨_, I76, _, rfl, by decide, by decide⟩
        · refine mv_goto (tgt := 43) d_TrustDesk_maySpeak_39 (by decide) ?_
          refine mv_astore (lv' := [(4, .ref a78), (3, .ref a10), (0, .ref o0), (1, .ref o1), (2, .int x2)]) d_TrustDesk_maySpeak_43 (by decide) rfl ?_
          refine mv_aload d_TrustDesk_maySpeak_45 rfl ?_
          refine mv_ifnull d_TrustDesk_maySpeak_47 ?_
          refine mv_aload d_TrustDesk_maySpeak_50 rfl ?_
          refine mv_iload_n d_TrustDesk_maySpeak_52 rfl rfl ?_
          obtain ⟨_, b92, -⟩ := I76.1 _ _ t_a78
          refine mv_callV (kc' := 0) (ks' := 0) (As := [.int x2]) (st9 := [.int x2, .ref a78]) d_TrustDesk_maySpeak_53 lV_TrustDesk_305 b92 rfl (tc_Fund_hasTrustee (d := (d + 3)) (x9 := x9) (o0 := a78) (x1 := x2) t_a78 I76.start) rfl (Nat.le_of_ble_eq_true rfl) (Nat.le_of_ble_eq_true rfl) (Nat.le_of_ble_eq_true rfl) (hst := rfl) (fun b86r M87 n88 b86 => ?_)
          obtain ⟨T89, J90, v93, rfl, b94, b95⟩ := b86
          have I91 := I76.call J90 (tm_sub (by decide)) (Or.inl rfl)
          have t96 := J90.up t_a78
          have t97 := J90.up t80
          have t98 := J90.up t81
          have t99 := J90.up t82
          have q100 := J90.keep t82 (by decide) q83
          have q101 := J90.keep t82 (by decide) q84
          have q102 := J90.keep t82 (by decide) q85
          have := mz_hi v93
          refine mv_if_eqZ (tgt := 63) (a := v93.toInt) d_TrustDesk_maySpeak_56 (by decide) rfl (fun b103 => ?_) (fun b103 => ?_)
          · refine mv_iconst (v := 0) d_TrustDesk_maySpeak_63 (by decide) ?_
            exact mv_iret d_TrustDesk_maySpeak_64 rfl (by decide) ⟨_, I91, _, rfl, by decide, by decide⟩
          · refine mv_iconst (v := 1) d_TrustDesk_maySpeak_59 (by decide) ?_
            refine mv_goto (tgt := 64) d_TrustDesk_maySpeak_60 (by decide) ?_
            exact mv_iret d_TrustDesk_maySpeak_64 rfl (by decide) ⟨_, I91, _, rfl, by decide, by decide⟩
    · refine mv_iconst (v := 1) d_TrustDesk_maySpeak_21 (by decide) ?_
      exact mv_iret d_TrustDesk_maySpeak_22 rfl (by decide) ⟨_, I56, _, rfl, by decide, by decide⟩
abbrev kY_TrustDesk_nearest : mj_Y := (⟨"TrustDesk", "nearest", "(I)I"⟩, prog_1_method_47_code, 7, (Option.some Jvm.ClassFile.FieldType.int))
theorem d_TrustDesk_nearest_0 : decode kY_TrustDesk_nearest.2.1 0 = .ok (.aload_n 0, 1) := by decide +kernel
theorem d_TrustDesk_nearest_1 : decode kY_TrustDesk_nearest.2.1 1 = .ok (.iload_n 1, 1) := by decide +kernel
theorem d_TrustDesk_nearest_2 : decode kY_TrustDesk_nearest.2.1 2 = .ok (.invokevirtual 257, 3) := by decide +kernel
theorem d_TrustDesk_nearest_5 : decode kY_TrustDesk_nearest.2.1 5 = .ok (.astore_n 2, 1) := by decide +kernel
theorem d_TrustDesk_nearest_6 : decode kY_TrustDesk_nearest.2.1 6 = .ok (.aload_n 2, 1) := by decide +kernel
theorem d_TrustDesk_nearest_7 : decode kY_TrustDesk_nearest.2.1 7 = .ok (.ifnull 10, 3) := by decide +kernel
theorem d_TrustDesk_nearest_17 : decode kY_TrustDesk_nearest.2.1 17 = .ok (.iconst (-1), 1) := by decide +kernel
theorem d_TrustDesk_nearest_18 : decode kY_TrustDesk_nearest.2.1 18 = .ok (.ireturn, 1) := by decide +kernel
theorem d_TrustDesk_nearest_10 : decode kY_TrustDesk_nearest.2.1 10 = .ok (.aload_n 2, 1) := by decide +kernel
theorem d_TrustDesk_nearest_11 : decode kY_TrustDesk_nearest.2.1 11 = .ok (.invokevirtual 162, 3) := by decide +kernel
theorem d_TrustDesk_nearest_14 : decode kY_TrustDesk_nearest.2.1 14 = .ok (.ifCond .eq 5, 3) := by decide +kernel
theorem d_TrustDesk_nearest_19 : decode kY_TrustDesk_nearest.2.1 19 = .ok (.aload_n 0, 1) := by decide +kernel
theorem d_TrustDesk_nearest_20 : decode kY_TrustDesk_nearest.2.1 20 = .ok (.aload_n 0, 1) := by decide +kernel
theorem d_TrustDesk_nearest_21 : decode kY_TrustDesk_nearest.2.1 21 = .ok (.getfield 73, 3) := by decide +kernel
theorem d_TrustDesk_nearest_24 : decode kY_TrustDesk_nearest.2.1 24 = .ok (.invokevirtual 114, 3) := by decide +kernel
theorem d_TrustDesk_nearest_27 : decode kY_TrustDesk_nearest.2.1 27 = .ok (.iconst 1, 1) := by decide +kernel
theorem d_TrustDesk_nearest_28 : decode kY_TrustDesk_nearest.2.1 28 = .ok (.invokevirtual 118, 3) := by decide +kernel
theorem d_TrustDesk_nearest_31 : decode kY_TrustDesk_nearest.2.1 31 = .ok (.iconst 1, 1) := by decide +kernel
theorem d_TrustDesk_nearest_32 : decode kY_TrustDesk_nearest.2.1 32 = .ok (.isub, 1) := by decide +kernel
theorem d_TrustDesk_nearest_33 : decode kY_TrustDesk_nearest.2.1 33 = .ok (.istore_n 3, 1) := by decide +kernel
theorem d_TrustDesk_nearest_34 : decode kY_TrustDesk_nearest.2.1 34 = .ok (.iconst (-1), 1) := by decide +kernel
theorem d_TrustDesk_nearest_35 : decode kY_TrustDesk_nearest.2.1 35 = .ok (.istore 4, 2) := by decide +kernel
theorem d_TrustDesk_nearest_37 : decode kY_TrustDesk_nearest.2.1 37 = .ok (.iconst 0, 1) := by decide +kernel
theorem d_TrustDesk_nearest_38 : decode kY_TrustDesk_nearest.2.1 38 = .ok (.istore 5, 2) := by decide +kernel
theorem d_TrustDesk_nearest_40 : decode kY_TrustDesk_nearest.2.1 40 = .ok (.iload 5, 2) := by decide +kernel
theorem d_TrustDesk_nearest_42 : decode kY_TrustDesk_nearest.2.1 42 = .ok (.aload_n 0, 1) := by decide +kernel
theorem d_TrustDesk_nearest_43 : decode kY_TrustDesk_nearest.2.1 43 = .ok (.getfield 56, 3) := by decide +kernel
theorem d_TrustDesk_nearest_46 : decode kY_TrustDesk_nearest.2.1 46 = .ok (.invokevirtual 97, 3) := by decide +kernel
theorem d_TrustDesk_nearest_49 : decode kY_TrustDesk_nearest.2.1 49 = .ok (.if_icmp .ge 47, 3) := by decide +kernel
theorem d_TrustDesk_nearest_96 : decode kY_TrustDesk_nearest.2.1 96 = .ok (.iload 4, 2) := by decide +kernel
theorem d_TrustDesk_nearest_98 : decode kY_TrustDesk_nearest.2.1 98 = .ok (.ireturn, 1) := by decide +kernel
theorem d_TrustDesk_nearest_52 : decode kY_TrustDesk_nearest.2.1 52 = .ok (.aload_n 0, 1) := by decide +kernel
theorem d_TrustDesk_nearest_53 : decode kY_TrustDesk_nearest.2.1 53 = .ok (.getfield 56, 3) := by decide +kernel
theorem d_TrustDesk_nearest_56 : decode kY_TrustDesk_nearest.2.1 56 = .ok (.iload 5, 2) := by decide +kernel
theorem d_TrustDesk_nearest_58 : decode kY_TrustDesk_nearest.2.1 58 = .ok (.invokevirtual 158, 3) := by decide +kernel
theorem d_TrustDesk_nearest_61 : decode kY_TrustDesk_nearest.2.1 61 = .ok (.checkcast 139, 3) := by decide +kernel
theorem d_TrustDesk_nearest_64 : decode kY_TrustDesk_nearest.2.1 64 = .ok (.getfield 383, 3) := by decide +kernel
theorem d_TrustDesk_nearest_67 : decode kY_TrustDesk_nearest.2.1 67 = .ok (.aload_n 2, 1) := by decide +kernel
theorem d_TrustDesk_nearest_68 : decode kY_TrustDesk_nearest.2.1 68 = .ok (.getfield 372, 3) := by decide +kernel
theorem d_TrustDesk_nearest_71 : decode kY_TrustDesk_nearest.2.1 71 = .ok (.iand, 1) := by decide +kernel
theorem d_TrustDesk_nearest_72 : decode kY_TrustDesk_nearest.2.1 72 = .ok (.invokestatic 337, 3) := by decide +kernel
theorem d_TrustDesk_nearest_75 : decode kY_TrustDesk_nearest.2.1 75 = .ok (.istore 6, 2) := by decide +kernel
theorem d_TrustDesk_nearest_77 : decode kY_TrustDesk_nearest.2.1 77 = .ok (.iload 6, 2) := by decide +kernel
theorem d_TrustDesk_nearest_79 : decode kY_TrustDesk_nearest.2.1 79 = .ok (.iload_n 3, 1) := by decide +kernel
theorem d_TrustDesk_nearest_80 : decode kY_TrustDesk_nearest.2.1 80 = .ok (.if_icmp .le 10, 3) := by decide +kernel
theorem d_TrustDesk_nearest_90 : decode kY_TrustDesk_nearest.2.1 90 = .ok (.iinc 5 1, 3) := by decide +kernel
theorem d_TrustDesk_nearest_93 : decode kY_TrustDesk_nearest.2.1 93 = .ok (.goto (-53), 3) := by decide +kernel
theorem d_TrustDesk_nearest_83 : decode kY_TrustDesk_nearest.2.1 83 = .ok (.iload 6, 2) := by decide +kernel
theorem d_TrustDesk_nearest_85 : decode kY_TrustDesk_nearest.2.1 85 = .ok (.istore_n 3, 1) := by decide +kernel
theorem d_TrustDesk_nearest_86 : decode kY_TrustDesk_nearest.2.1 86 = .ok (.iload 5, 2) := by decide +kernel
theorem d_TrustDesk_nearest_88 : decode kY_TrustDesk_nearest.2.1 88 = .ok (.istore 4, 2) := by decide +kernel
def w_TrustDesk_nearest : List Nat := []
theorem tc_TrustDesk_nearest {g : mj_G} {l : Launch} {d : Nat} {T0 : tm_H} {M0 : mj_M} {n0 x9 : Nat} {o0 : Nat} {x1 : Int32} (h_o0 : T0 o0 = some (0, 12, 0)) (I0 : tm_I tm_FT (tm_in w_TrustDesk_nearest) x9 T0 M0 n0 T0 M0 n0) : mj_Met g l kY_TrustDesk_nearest (d + 4) [.ref o0, .int x1] M0 n0 0 0 (tm_Q tm_FT (tm_in w_TrustDesk_nearest) x9 T0 M0 n0 (fun r _ _ => ∃ v : Int32, r = some (.int v))) := by
  refine mj_enter (by decide) (Nat.le_of_ble_eq_true rfl) ?_
  refine mv_aload_n d_TrustDesk_nearest_0 rfl rfl ?_
  refine mv_iload_n d_TrustDesk_nearest_1 rfl rfl ?_
  obtain ⟨_, b7, -⟩ := I0.1 _ _ h_o0
  refine mv_callV (kc' := 0) (ks' := 0) (As := [.int x1]) (st9 := [.int x1, .ref o0]) d_TrustDesk_nearest_2 lV_TrustDesk_257 b7 rfl (tc_TrustDesk_fundAt (d := d) (x9 := x9) (o0 := o0) (x1 := x1) h_o0 I0.start) rfl (Nat.le_of_ble_eq_true rfl) (Nat.le_of_ble_eq_true rfl) (Nat.le_of_ble_eq_true rfl) (hst := rfl) (fun b1r M2 n3 b1 => ?_)
  obtain ⟨T4, J5, b9⟩ := b1
  have I6 := I0.call J5 (tm_sub (by decide)) (Or.inl rfl)
  have t10 := J5.up h_o0
  rcases b9 with rfl | ⟨a8, rfl, t_a8⟩
  · refine mv_astore_nN (lv' := [(2, .null), (0, .ref o0), (1, .int x1)]) d_TrustDesk_nearest_5 rfl (by decide) rfl ?_
    refine mv_aload_nN d_TrustDesk_nearest_6 rfl rfl ?_
    refine mv_ifnullN (tgt := 17) d_TrustDesk_nearest_7 (by decide) ?_
    refine mv_iconst (v := (-1)) d_TrustDesk_nearest_17 (by decide) ?_
    exact mv_iret d_TrustDesk_nearest_18 rfl (by first | rfl | decide) ⟨_, I6, _, rfl⟩
  · refine mv_astore_n (lv' := [(2, .ref a8), (0, .ref o0), (1, .int x1)]) d_TrustDesk_nearest_5 rfl (by decide) rfl ?_
    refine mv_aload_n d_TrustDesk_nearest_6 rfl rfl ?_
    refine mv_ifnull d_TrustDesk_nearest_7 ?_
    refine mv_aload_n d_TrustDesk_nearest_10 rfl rfl ?_
    obtain ⟨_, b17, -⟩ := I6.1 _ _ t_a8
    refine mv_callV (kc' := 0) (ks' := 0) (As := []) (st9 := [.ref a8]) d_TrustDesk_nearest_11 lV_TrustDesk_162 b17 rfl (tc_Fund_isJoined (d := (d + 3)) (x9 := x9) (o0 := a8) t_a8 I6.start) rfl (Nat.le_of_ble_eq_true rfl) (Nat.le_of_ble_eq_true rfl) (Nat.le_of_ble_eq_true rfl) (hst := rfl) (fun b11r M12 n13 b11 => ?_)
    obtain ⟨T14, J15, v18, rfl, b19, b20⟩ := b11
    have I16 := I6.call J15 (tm_sub (by decide)) (Or.inl rfl)
    have t21 := J15.up t_a8
    have t22 := J15.up t10
    have := mz_hi v18
    refine mv_if_eqZ (tgt := 19) (a := v18.toInt) d_TrustDesk_nearest_14 (by decide) rfl (fun b23 => ?_) (fun b23 => ?_)
    · refine mv_aload_n d_TrustDesk_nearest_19 rfl rfl ?_
      refine mv_aload_n d_TrustDesk_nearest_20 rfl rfl ?_
      obtain ⟨v25, q24⟩ := tm_atI I16 t22 (k := 12) rfl
      refine tr_getK q24 d_TrustDesk_nearest_21 f_TrustDesk_73_12 ?_
      obtain ⟨_, b32, -⟩ := I16.1 _ _ t22
      refine mv_callV (kc' := 0) (ks' := 0) (As := [.int v25]) (st9 := [.int v25, .ref o0]) d_TrustDesk_nearest_24 lV_TrustDesk_114 b32 rfl (tc_TrustDesk_inForce (d := d) (x9 := x9) (o0 := o0) (x1 := v25) t22 I16.start) rfl (Nat.le_of_ble_eq_true rfl) (Nat.le_of_ble_eq_true rfl) (Nat.le_of_ble_eq_true rfl) (hst := rfl) (fun b26r M27 n28 b26 => ?_)
      obtain ⟨T29, J30, a33, rfl, t_a33⟩ := b26
      have I31 := I16.call J30 (tm_sub (by decide)) (Or.inl rfl)
      have t34 := J30.up t21
      have t35 := J30.up t22
      have q36 := J30.keep t22 (by decide) q24
      refine mv_iconst (v := 1) d_TrustDesk_nearest_27 (by decide) ?_
      obtain ⟨_, b43, -⟩ := I31.1 _ _ t_a33
      refine mv_callV (kc' := 0) (ks' := 0) (As := [.int 1]) (st9 := [.int 1, .ref a33]) d_TrustDesk_nearest_28 lV_TrustDesk_118 b43 rfl (tc_Act_rule (d := (d + 3)) (x9 := x9) (o0 := a33) (x1 := 1) t_a33 I31.start) rfl (Nat.le_of_ble_eq_true rfl) (Nat.le_of_ble_eq_true rfl) (Nat.le_of_ble_eq_true rfl) (hst := rfl) (fun b37r M38 n39 b37 => ?_)
      obtain ⟨T40, J41, v44, rfl⟩ := b37
      have I42 := I31.call J41 (tm_sub (by decide)) (Or.inl rfl)
      have t45 := J41.up t34
      have t46 := J41.up t35
      have q47 := J41.keep t35 (by decide) q36
      refine mv_iconst (v := 1) d_TrustDesk_nearest_31 (by decide) ?_
      refine mv_isub d_TrustDesk_nearest_32 ?_
      refine mv_istore_n (lv' := [(3, .int (v44 - 1)), (2, .ref a8), (0, .ref o0), (1, .int x1)]) d_TrustDesk_nearest_33 rfl (by decide) rfl ?_
      refine mv_iconst (v := (-1)) d_TrustDesk_nearest_34 (by decide) ?_
      refine mv_istore (lv' := [(4, .int (-1)), (3, .int (v44 - 1)), (2, .ref a8), (0, .ref o0), (1, .int x1)]) d_TrustDesk_nearest_35 (by decide) rfl ?_
      refine mv_iconst (v := 0) d_TrustDesk_nearest_37 (by decide) ?_
      refine mv_istore (lv' := [(5, .int 0), (4, .int (-1)), (3, .int (v44 - 1)), (2, .ref a8), (0, .ref o0), (1, .int x1)]) d_TrustDesk_nearest_38 (by decide) rfl ?_
      have L40_48 : ∀ (k : Nat) (i5_48 : Int32) (i4_48 : Int32) (i3_48 : Int32) (T_48 : tm_H) (M_48 : mj_M) (n_48 : Nat), tm_I tm_FT (tm_in w_TrustDesk_nearest) x9 T0 M0 n0 T_48 M_48 n_48 → T_48 a8 = some (0, 6, 0) → T_48 o0 = some (0, 12, 0) → 0 ≤ i5_48.toInt → 2147483647 - i5_48.toInt < (k : Int) → mj_V g l kY_TrustDesk_nearest (d + 4) 40 [(5, .int i5_48), (4, .int i4_48), (3, .int i3_48), (2, .ref a8), (0, .ref o0), (1, .int x1)] [] M_48 n_48 0 0 (tm_Q tm_FT (tm_in w_TrustDesk_nearest) x9 T0 M0 n0 (fun r _ _ => ∃ v : Int32, r = some (.int v))) := by
        intro k48
        induction k48 with
        | zero =>
          intro i5_48 i4_48 i3_48 T_48 M_48 n_48 I_48 h_q2_48 h_q0_48 iv0_48 hk48
          have := mz_hi i5_48
          omega
        | succ k48 ih48 =>
          intro i5_48 i4_48 i3_48 T_48 M_48 n_48 I_48 h_q2_48 h_q0_48 iv0_48 hk48
          refine mv_iload d_TrustDesk_nearest_40 rfl ?_
          refine mv_aload_n d_TrustDesk_nearest_42 rfl rfl ?_
          obtain ⟨a50, q49, t_a50⟩ := tm_atO I_48 h_q0_48 (k := 7) rfl
          refine tr_getK q49 d_TrustDesk_nearest_43 f_TrustDesk_56_12 ?_
          obtain ⟨m52, n53, e54, N55, f56, h51⟩ := I_48.1 _ _ t_a50
          have := h51.2.1
          have : n53.toInt ≤ 12 := h51.2.2.1
          refine mv_callV_s (kc' := 0) (ks' := 0) [] [.ref a50, .int i5_48] d_TrustDesk_nearest_46 lV_TrustDesk_97 h51.1 rfl (tc_L_size (d := (d + 3)) h51.1) rfl (Nat.le_of_ble_eq_true rfl) (Nat.le_of_ble_eq_true rfl) (Nat.le_of_ble_eq_true rfl) rfl ?_
          have := mz_hi i5_48
          have := mz_hi n53
          refine mv_icmp_geZ (tgt := 96) (a := i5_48.toInt) (b := n53.toInt) d_TrustDesk_nearest_49 (by decide) rfl rfl (fun b57 => ?_) (fun b57 => ?_)
          · refine mv_iload d_TrustDesk_nearest_96 rfl ?_
            exact mv_iret d_TrustDesk_nearest_98 rfl (by first | rfl | decide) ⟨_, I_48, _, rfl⟩
          · refine mv_aload_n d_TrustDesk_nearest_52 rfl rfl ?_
            refine tr_getK (k := 7) q49 d_TrustDesk_nearest_53 f_TrustDesk_56_12 ?_
            refine mv_iload d_TrustDesk_nearest_56 rfl ?_
            obtain ⟨u58e, u58i, a59, u58f, u58t⟩ := tm_el (i := i5_48) h51 (by omega) (by omega)
            have t_a59 : T_48 a59 = some (0, 8, 0) := u58t
            refine mv_callV_s (kc' := 0) (ks' := 0) [.int i5_48] [.int i5_48, .ref a50] d_TrustDesk_nearest_58 lV_TrustDesk_158 h51.1 rfl (tc_L_get (d := (d + 1)) h51.1 u58e (by omega) (by omega) u58i u58f) rfl (Nat.le_of_ble_eq_true rfl) (Nat.le_of_ble_eq_true rfl) (Nat.le_of_ble_eq_true rfl) rfl ?_
            obtain ⟨_, b60, -⟩ := I_48.1 _ _ t_a59
            refine mv_castS (T9 := kF_NearEnd) (N := 2) d_TrustDesk_nearest_61 (mj_in1 (List.mem_of_getElem? (i := 821) (by decide +kernel)) rfl) b60 rfl ?_
            obtain ⟨v62, q61⟩ := tm_atI I_48 t_a59 (k := 1) rfl
            refine tr_getK q61 d_TrustDesk_nearest_64 f_TrustDesk_383_8 ?_
            refine mv_aload_n d_TrustDesk_nearest_67 rfl rfl ?_
            obtain ⟨v64, q63⟩ := tm_atI I_48 h_q2_48 (k := 4) rfl
            refine tr_getK q63 d_TrustDesk_nearest_68 f_TrustDesk_372_6 ?_
            refine mv_iand d_TrustDesk_nearest_71 ?_
            refine mv_callS (kc' := 0) (ks' := 0) (As := [.int (v62 &&& v64)]) (st9 := [.int (v62 &&& v64)]) d_TrustDesk_nearest_72 lS_TrustDesk_337 (tc_Integer_bitCount (d := (d + 3)) (x9 := x9) (x1 := (v62 &&& v64))  I_48.start) rfl (Nat.le_of_ble_eq_true rfl) (Nat.le_of_ble_eq_true rfl) (Nat.le_of_ble_eq_true rfl) (hst := rfl) (fun b65r M66 n67 b65 => ?_)
            obtain ⟨T68, J69, v71, rfl⟩ := b65
            have I70 := I_48.call J69 (tm_sub (by decide)) (Or.inl rfl)
            have t72 := J69.up h_q2_48
            have t73 := J69.up h_q0_48
            have q74 := J69.keep h_q0_48 (by decide) q49
            have t75 := J69.up t_a50
            have q76 := J69.keep h_q2_48 (by decide) q63
            refine mv_istore (lv' := [(6, .int v71), (5, .int i5_48), (4, .int i4_48), (3, .int i3_48), (2, .ref a8), (0, .ref o0), (1, .int x1)]) d_TrustDesk_nearest_75 (by decide) rfl ?_
            refine mv_iload d_TrustDesk_nearest_77 rfl ?_
            refine mv_iload_n d_TrustDesk_nearest_79 rfl rfl ?_
            have := mz_hi v71
            have := mz_hi i3_48
            refine mv_icmp_leZ (tgt := 90) (a := v71.toInt) (b := i3_48.toInt) d_TrustDesk_nearest_80 (by decide) rfl rfl (fun b77 => ?_) (fun b77 => ?_)
            · refine mv_iinc (v := (i5_48 + 1)) (lv' := [(5, .int (i5_48 + 1)), (6, .int v71), (4, .int i4_48), (3, .int i3_48), (2, .ref a8), (0, .ref o0), (1, .int x1)]) d_TrustDesk_nearest_90 rfl rfl (by decide) rfl ?_
              refine mv_goto (tgt := 40) d_TrustDesk_nearest_93 (by decide) ?_
              refine mv_locals (lv' := [(5, .int (i5_48 + 1)), (4, .int i4_48), (3, .int i3_48), (2, .ref a8), (0, .ref o0), (1, .int x1)]) (by intro q hq; simp only [List.mem_cons, List.not_mem_nil, or_false] at hq; rcases hq with rfl | rfl | rfl | rfl | rfl | rfl <;> rfl) ?_
              have b78 : (i5_48 + 1).toInt = i5_48.toInt + 1 := mz_addn 1 1 (by decide) (by have := mz_lo i5_48; omega) (by have := mz_hi i5_48; omega)
              exact ih48 (i5_48 + 1) i4_48 i3_48 T68 M66 n67 I70 t72 t73 (by first | omega | decide) (by omega)
            · refine mv_iload d_TrustDesk_nearest_83 rfl ?_
              refine mv_istore_n (lv' := [(3, .int v71), (6, .int v71), (5, .int i5_48), (4, .int i4_48), (2, .ref a8), (0, .ref o0), (1, .int x1)]) d_TrustDesk_nearest_85 rfl (by decide) rfl ?_
              refine mv_iload d_TrustDesk_nearest_86 rfl ?_
              refine mv_istore (lv' := [(4, .int i5_48), (3, .int v71), (6, .int v71), (5, .int i5_48), (2, .ref a8), (0, .ref o0), (1, .int x1)]) d_TrustDesk_nearest_88 (by decide) rfl ?_
              refine mv_iinc (v := (i5_48 + 1)) (lv' := [(5, .int (i5_48 + 1)), (4, .int i5_48), (3, .int v71), (6, .int v71), (2, .ref a8), (0, .ref o0), (1, .int x1)]) d_TrustDesk_nearest_90 rfl rfl (by decide) rfl ?_
              refine mv_goto (tgt := 40) d_TrustDesk_nearest_93 (by decide) ?_
              refine mv_locals (lv' := [(5, .int (i5_48 + 1)), (4, .int i5_48), (3, .int v71), (2, .ref a8), (0, .ref o0), (1, .int x1)]) (by intro q hq; simp only [List.mem_cons, List.not_mem_nil, or_false] at hq; rcases hq with rfl | rfl | rfl | rfl | rfl | rfl <;> rfl) ?_
              have b79 : (i5_48 + 1).toInt = i5_48.toInt + 1 := mz_addn 1 1 (by decide) (by have := mz_lo i5_48; omega) (by have := mz_hi i5_48; omega)
              exact ih48 (i5_48 + 1) i5_48 v71 T68 M66 n67 I70 t72 t73 (by first | omega | decide) (by omega)
      exact L40_48 4294967296 0 (-1) (v44 - 1) T40 M38 n39 I42 t45 t46 (by first | omega | decide) (by show (2147483647 : Int) - _ < _; decide)
    · refine mv_iconst (v := (-1)) d_TrustDesk_nearest_17 (by decide) ?_
      exact mv_iret d_TrustDesk_nearest_18 rfl (by first | rfl | decide) ⟨_, I16, _, rfl⟩
abbrev kY_TrustDesk_objects : mj_Y := (⟨"TrustDesk", "objects", "(II)Z"⟩, prog_1_method_20_code, 4, (Option.some Jvm.ClassFile.FieldType.boolean))
theorem d_TrustDesk_objects_0 : decode kY_TrustDesk_objects.2.1 0 = .ok (.aload_n 0, 1) := by decide +kernel
theorem d_TrustDesk_objects_1 : decode kY_TrustDesk_objects.2.1 1 = .ok (.iload_n 1, 1) := by decide +kernel
theorem d_TrustDesk_objects_2 : decode kY_TrustDesk_objects.2.1 2 = .ok (.invokevirtual 280, 3) := by decide +kernel
abbrev kY_TrustDesk_schemeAt : mj_Y := (⟨"TrustDesk", "schemeAt", "(I)LTrustDesk$Scheme;"⟩, prog_1_method_63_code, 2, (Option.some (Jvm.ClassFile.FieldType.object "TrustDesk$Scheme")))
theorem d_TrustDesk_schemeAt_0 : decode kY_TrustDesk_schemeAt.2.1 0 = .ok (.iload_n 1, 1) := by decide +kernel
theorem d_TrustDesk_schemeAt_1 : decode kY_TrustDesk_schemeAt.2.1 1 = .ok (.ifCond .lt 28, 3) := by decide +kernel
theorem d_TrustDesk_schemeAt_29 : decode kY_TrustDesk_schemeAt.2.1 29 = .ok (.aconst_null, 1) := by decide +kernel
theorem d_TrustDesk_schemeAt_30 : decode kY_TrustDesk_schemeAt.2.1 30 = .ok (.areturn, 1) := by decide +kernel
theorem d_TrustDesk_schemeAt_4 : decode kY_TrustDesk_schemeAt.2.1 4 = .ok (.iload_n 1, 1) := by decide +kernel
theorem d_TrustDesk_schemeAt_5 : decode kY_TrustDesk_schemeAt.2.1 5 = .ok (.aload_n 0, 1) := by decide +kernel
theorem d_TrustDesk_schemeAt_6 : decode kY_TrustDesk_schemeAt.2.1 6 = .ok (.getfield 59, 3) := by decide +kernel
theorem d_TrustDesk_schemeAt_9 : decode kY_TrustDesk_schemeAt.2.1 9 = .ok (.invokevirtual 97, 3) := by decide +kernel
theorem d_TrustDesk_schemeAt_12 : decode kY_TrustDesk_schemeAt.2.1 12 = .ok (.if_icmp .ge 17, 3) := by decide +kernel
theorem d_TrustDesk_schemeAt_15 : decode kY_TrustDesk_schemeAt.2.1 15 = .ok (.aload_n 0, 1) := by decide +kernel
theorem d_TrustDesk_schemeAt_16 : decode kY_TrustDesk_schemeAt.2.1 16 = .ok (.getfield 59, 3) := by decide +kernel
theorem d_TrustDesk_schemeAt_19 : decode kY_TrustDesk_schemeAt.2.1 19 = .ok (.iload_n 1, 1) := by decide +kernel
theorem d_TrustDesk_schemeAt_20 : decode kY_TrustDesk_schemeAt.2.1 20 = .ok (.invokevirtual 158, 3) := by decide +kernel
theorem d_TrustDesk_schemeAt_23 : decode kY_TrustDesk_schemeAt.2.1 23 = .ok (.checkcast 271, 3) := by decide +kernel
theorem d_TrustDesk_schemeAt_26 : decode kY_TrustDesk_schemeAt.2.1 26 = .ok (.goto 4, 3) := by decide +kernel
def w_TrustDesk_schemeAt : List Nat := []
theorem tc_TrustDesk_schemeAt {g : mj_G} {l : Launch} {d : Nat} {T0 : tm_H} {M0 : mj_M} {n0 x9 : Nat} {o0 : Nat} {x1 : Int32} (h_o0 : T0 o0 = some (0, 12, 0)) (I0 : tm_I tm_FT (tm_in w_TrustDesk_schemeAt) x9 T0 M0 n0 T0 M0 n0) : mj_Met g l kY_TrustDesk_schemeAt (d + 3) [.ref o0, .int x1] M0 n0 0 0 (tm_Q tm_FT (tm_in w_TrustDesk_schemeAt) x9 T0 M0 n0 (fun r T _ => r = some .null ∨ ∃ b, r = some (.ref b) ∧ T b = some (0, 11, 0))) := by
  refine mj_enter (by decide) (Nat.le_of_ble_eq_true rfl) ?_
  refine mv_iload_n d_TrustDesk_schemeAt_0 rfl rfl ?_
  have := mz_hi x1
  refine mv_if_ltZ (tgt := 29) (a := x1.toInt) d_TrustDesk_schemeAt_1 (by decide) rfl (fun b1 => ?_) (fun b1 => ?_)
  · refine mv_null d_TrustDesk_schemeAt_29 ?_
    exact mv_aret (r := none) d_TrustDesk_schemeAt_30 rfl (by first | exact Or.inl ⟨_, rfl⟩ | exact Or.inr ⟨_, rfl⟩) ⟨_, I0, Or.inl rfl⟩
  · refine mv_iload_n d_TrustDesk_schemeAt_4 rfl rfl ?_
    refine mv_aload_n d_TrustDesk_schemeAt_5 rfl rfl ?_
    obtain ⟨a3, q2, t_a3⟩ := tm_atO I0 h_o0 (k := 8) rfl
    refine tr_getK q2 d_TrustDesk_schemeAt_6 f_TrustDesk_59_12 ?_
    obtain ⟨m5, n6, e7, N8, f9, h4⟩ := I0.1 _ _ t_a3
    have := h4.2.1
    have : n6.toInt ≤ 40 := h4.2.2.1
    refine mv_callV_s (kc' := 0) (ks' := 0) [] [.ref a3, .int x1] d_TrustDesk_schemeAt_9 lV_TrustDesk_97 h4.1 rfl (tc_L_size (d := (d + 2)) h4.1) rfl (Nat.le_of_ble_eq_true rfl) (Nat.le_of_ble_eq_true rfl) (Nat.le_of_ble_eq_true rfl) rfl ?_
    have := mz_hi x1
    have := mz_hi n6
    refine mv_icmp_geZ (tgt := 29) (a := x1.toInt) (b := n6.toInt) d_TrustDesk_schemeAt_12 (by decide) rfl rfl (fun b10 => ?_) (fun b10 => ?_)
    · refine mv_null d_TrustDesk_schemeAt_29 ?_
      exact mv_aret (r := none) d_TrustDesk_schemeAt_30 rfl (by first | exact Or.inl ⟨_, rfl⟩ | exact Or.inr ⟨_, rfl⟩) ⟨_, I0, Or.inl rfl⟩
    · refine mv_aload_n d_TrustDesk_schemeAt_15 rfl rfl ?_
      refine tr_getK (k := 8) q2 d_TrustDesk_schemeAt_16 f_TrustDesk_59_12 ?_
      refine mv_iload_n d_TrustDesk_schemeAt_19 rfl rfl ?_
      obtain ⟨u11e, u11i, a12, u11f, u11t⟩ := tm_el (i := x1) h4 (by omega) (by omega)
      have t_a12 : T0 a12 = some (0, 11, 0) := u11t
      refine mv_callV_s (kc' := 0) (ks' := 0) [.int x1] [.int x1, .ref a3] d_TrustDesk_schemeAt_20 lV_TrustDesk_158 h4.1 rfl (tc_L_get (d := d) h4.1 u11e (by omega) (by omega) u11i u11f) rfl (Nat.le_of_ble_eq_true rfl) (Nat.le_of_ble_eq_true rfl) (Nat.le_of_ble_eq_true rfl) rfl ?_
      obtain ⟨_, b13, -⟩ := I0.1 _ _ t_a12
      refine mv_castS (T9 := kF_Scheme) (N := 12) d_TrustDesk_schemeAt_23 (mj_in1 (List.mem_of_getElem? (i := 961) (by decide +kernel)) rfl) b13 rfl ?_
      refine mv_goto (tgt := 30) d_TrustDesk_schemeAt_26 (by decide) ?_
      exact mv_aret (r := some a12) d_TrustDesk_schemeAt_30 rfl (by first | exact Or.inl ⟨_, rfl⟩ | exact Or.inr ⟨_, rfl⟩) ⟨_, I0, Or.inr ⟨_, rfl, t_a12⟩⟩
theorem lV_TrustDesk_280 : mj_lV "TrustDesk" 280 kY_TrustDesk_schemeAt 1 := ⟨⟨(mj_in1 (List.mem_of_getElem? (i := 1017) (by decide +kernel)) rfl), (mj_in1 (List.mem_of_getElem? (i := 1) (by decide +kernel)) rfl), (mj_in1 (List.mem_of_getElem? (i := 1020) (by decide +kernel)) rfl), by decide, rfl, by decide⟩, (mj_in1 (List.mem_of_getElem? (i := 1019) (by decide +kernel)) rfl), (mj_in (List.mem_append_left _ (List.mem_of_getElem? (i := 52) (by decide +kernel))) rfl)⟩
theorem d_TrustDesk_objects_5 : decode kY_TrustDesk_objects.2.1 5 = .ok (.astore_n 3, 1) := by decide +kernel
theorem d_TrustDesk_objects_6 : decode kY_TrustDesk_objects.2.1 6 = .ok (.aload_n 3, 1) := by decide +kernel
theorem d_TrustDesk_objects_7 : decode kY_TrustDesk_objects.2.1 7 = .ok (.ifnull 28, 3) := by decide +kernel
theorem d_TrustDesk_objects_35 : decode kY_TrustDesk_objects.2.1 35 = .ok (.iconst 0, 1) := by decide +kernel
theorem d_TrustDesk_objects_36 : decode kY_TrustDesk_objects.2.1 36 = .ok (.ireturn, 1) := by decide +kernel
theorem d_TrustDesk_objects_10 : decode kY_TrustDesk_objects.2.1 10 = .ok (.iload_n 2, 1) := by decide +kernel
theorem d_TrustDesk_objects_11 : decode kY_TrustDesk_objects.2.1 11 = .ok (.invokestatic 261, 3) := by decide +kernel
theorem lS_TrustDesk_261 : mj_lS "TrustDesk" 261 kY_TrustDesk_isPerson 1 := ⟨⟨(mj_in1 (List.mem_of_getElem? (i := 942) (by decide +kernel)) rfl), (mj_in1 (List.mem_of_getElem? (i := 1) (by decide +kernel)) rfl), (mj_in1 (List.mem_of_getElem? (i := 944) (by decide +kernel)) rfl), by decide, rfl, by decide⟩, (mj_in1 (List.mem_of_getElem? (i := 943) (by decide +kernel)) rfl)⟩
theorem d_TrustDesk_objects_14 : decode kY_TrustDesk_objects.2.1 14 = .ok (.ifCond .eq 21, 3) := by decide +kernel
theorem d_TrustDesk_objects_17 : decode kY_TrustDesk_objects.2.1 17 = .ok (.aload_n 3, 1) := by decide +kernel
theorem d_TrustDesk_objects_18 : decode kY_TrustDesk_objects.2.1 18 = .ok (.getfield 284, 3) := by decide +kernel
theorem d_TrustDesk_objects_21 : decode kY_TrustDesk_objects.2.1 21 = .ok (.ifCond .ne 14, 3) := by decide +kernel
theorem d_TrustDesk_objects_24 : decode kY_TrustDesk_objects.2.1 24 = .ok (.aload_n 0, 1) := by decide +kernel
theorem d_TrustDesk_objects_25 : decode kY_TrustDesk_objects.2.1 25 = .ok (.getfield 73, 3) := by decide +kernel
theorem d_TrustDesk_objects_28 : decode kY_TrustDesk_objects.2.1 28 = .ok (.aload_n 3, 1) := by decide +kernel
theorem d_TrustDesk_objects_29 : decode kY_TrustDesk_objects.2.1 29 = .ok (.getfield 285, 3) := by decide +kernel
theorem f_TrustDesk_285_11 : mj_fl "TrustDesk" 285 11 4 := ⟨kR_Scheme, kF_Scheme, 12, "TrustDesk$Scheme", rfl, kg_11, by decide, (mj_in1 (List.mem_of_getElem? (i := 976) (by decide +kernel)) rfl), Or.inl rfl⟩
theorem d_TrustDesk_objects_32 : decode kY_TrustDesk_objects.2.1 32 = .ok (.if_icmp .le 5, 3) := by decide +kernel
theorem d_TrustDesk_objects_37 : decode kY_TrustDesk_objects.2.1 37 = .ok (.aload_n 3, 1) := by decide +kernel
theorem d_TrustDesk_objects_38 : decode kY_TrustDesk_objects.2.1 38 = .ok (.iload_n 2, 1) := by decide +kernel
theorem d_TrustDesk_objects_39 : decode kY_TrustDesk_objects.2.1 39 = .ok (.invokevirtual 288, 3) := by decide +kernel
abbrev kY_Scheme_takeObjection : mj_Y := (⟨"TrustDesk$Scheme", "takeObjection", "(I)Z"⟩, prog_12_method_2_code, 2, (Option.some Jvm.ClassFile.FieldType.boolean))
theorem d_Scheme_takeObjection_0 : decode kY_Scheme_takeObjection.2.1 0 = .ok (.iload_n 1, 1) := by decide +kernel
theorem d_Scheme_takeObjection_1 : decode kY_Scheme_takeObjection.2.1 1 = .ok (.ifCond .lt 27, 3) := by decide +kernel
theorem d_Scheme_takeObjection_28 : decode kY_Scheme_takeObjection.2.1 28 = .ok (.iconst 0, 1) := by decide +kernel
theorem d_Scheme_takeObjection_29 : decode kY_Scheme_takeObjection.2.1 29 = .ok (.ireturn, 1) := by decide +kernel
theorem d_Scheme_takeObjection_4 : decode kY_Scheme_takeObjection.2.1 4 = .ok (.iload_n 1, 1) := by decide +kernel
theorem d_Scheme_takeObjection_5 : decode kY_Scheme_takeObjection.2.1 5 = .ok (.bipush 100, 2) := by decide +kernel
theorem d_Scheme_takeObjection_7 : decode kY_Scheme_takeObjection.2.1 7 = .ok (.if_icmp .ge 21, 3) := by decide +kernel
theorem d_Scheme_takeObjection_10 : decode kY_Scheme_takeObjection.2.1 10 = .ok (.aload_n 0, 1) := by decide +kernel
theorem d_Scheme_takeObjection_11 : decode kY_Scheme_takeObjection.2.1 11 = .ok (.getfield 15, 3) := by decide +kernel
theorem f_Scheme_15_11 : mj_fl "TrustDesk$Scheme" 15 11 10 := ⟨kR_Scheme, kF_Scheme, 12, "TrustDesk$Scheme", rfl, kg_11, by decide, (mj_in1 (List.mem_of_getElem? (i := 986) (by decide +kernel)) rfl), Or.inl rfl⟩
theorem d_Scheme_takeObjection_14 : decode kY_Scheme_takeObjection.2.1 14 = .ok (.iload_n 1, 1) := by decide +kernel
theorem d_Scheme_takeObjection_15 : decode kY_Scheme_takeObjection.2.1 15 = .ok (.baload, 1) := by decide +kernel
theorem d_Scheme_takeObjection_16 : decode kY_Scheme_takeObjection.2.1 16 = .ok (.ifCond .ne 12, 3) := by decide +kernel
theorem d_Scheme_takeObjection_19 : decode kY_Scheme_takeObjection.2.1 19 = .ok (.aload_n 0, 1) := by decide +kernel
theorem d_Scheme_takeObjection_20 : decode kY_Scheme_takeObjection.2.1 20 = .ok (.getfield 38, 3) := by decide +kernel
theorem f_Scheme_38_11 : mj_fl "TrustDesk$Scheme" 38 11 7 := ⟨kR_Scheme, kF_Scheme, 12, "TrustDesk$Scheme", rfl, kg_11, by decide, (mj_in1 (List.mem_of_getElem? (i := 980) (by decide +kernel)) rfl), Or.inl rfl⟩
theorem d_Scheme_takeObjection_23 : decode kY_Scheme_takeObjection.2.1 23 = .ok (.bipush 10, 2) := by decide +kernel
theorem d_Scheme_takeObjection_25 : decode kY_Scheme_takeObjection.2.1 25 = .ok (.if_icmp .lt 5, 3) := by decide +kernel
theorem d_Scheme_takeObjection_30 : decode kY_Scheme_takeObjection.2.1 30 = .ok (.aload_n 0, 1) := by decide +kernel
theorem d_Scheme_takeObjection_31 : decode kY_Scheme_takeObjection.2.1 31 = .ok (.getfield 15, 3) := by decide +kernel
theorem d_Scheme_takeObjection_34 : decode kY_Scheme_takeObjection.2.1 34 = .ok (.iload_n 1, 1) := by decide +kernel
theorem d_Scheme_takeObjection_35 : decode kY_Scheme_takeObjection.2.1 35 = .ok (.iconst 1, 1) := by decide +kernel
theorem d_Scheme_takeObjection_36 : decode kY_Scheme_takeObjection.2.1 36 = .ok (.bastore, 1) := by decide +kernel
theorem d_Scheme_takeObjection_37 : decode kY_Scheme_takeObjection.2.1 37 = .ok (.aload_n 0, 1) := by decide +kernel
theorem d_Scheme_takeObjection_38 : decode kY_Scheme_takeObjection.2.1 38 = .ok (.dup, 1) := by decide +kernel
theorem d_Scheme_takeObjection_39 : decode kY_Scheme_takeObjection.2.1 39 = .ok (.getfield 38, 3) := by decide +kernel
theorem d_Scheme_takeObjection_42 : decode kY_Scheme_takeObjection.2.1 42 = .ok (.iconst 1, 1) := by decide +kernel
theorem d_Scheme_takeObjection_43 : decode kY_Scheme_takeObjection.2.1 43 = .ok (.iadd, 1) := by decide +kernel
theorem d_Scheme_takeObjection_44 : decode kY_Scheme_takeObjection.2.1 44 = .ok (.putfield 38, 3) := by decide +kernel
theorem p_Scheme_38_11 : mj_fp "TrustDesk$Scheme" 38 11 7 (kt_Scheme 7) false := ⟨kR_Scheme, kF_Scheme, 12, "TrustDesk$Scheme", kt_Scheme, rfl, kg_11, by decide, (mj_in1 (List.mem_of_getElem? (i := 980) (by decide +kernel)) rfl), Or.inl rfl, kto_Scheme, kn_Scheme, rfl, rfl, fun h => by cases h⟩
theorem d_Scheme_takeObjection_47 : decode kY_Scheme_takeObjection.2.1 47 = .ok (.iconst 1, 1) := by decide +kernel
theorem d_Scheme_takeObjection_48 : decode kY_Scheme_takeObjection.2.1 48 = .ok (.ireturn, 1) := by decide +kernel
def w_Scheme_takeObjection : List Nat := [1107, 1160]
theorem tc_Scheme_takeObjection {g : mj_G} {l : Launch} {d : Nat} {T0 : tm_H} {M0 : mj_M} {n0 x9 : Nat} {o0 : Nat} {x1 : Int32} (h_o0 : T0 o0 = some (0, 11, 0)) (I0 : tm_I tm_FT (tm_in w_Scheme_takeObjection) x9 T0 M0 n0 T0 M0 n0) : mj_Met g l kY_Scheme_takeObjection d [.ref o0, .int x1] M0 n0 0 0 (tm_Q tm_FT (tm_in w_Scheme_takeObjection) x9 T0 M0 n0 (fun r _ _ => ∃ v : Int32, r = some (.int v) ∧ 0 ≤ v.toInt ∧ v.toInt ≤ 1)) := by
  refine mj_enter (by decide) (Nat.le_of_ble_eq_true rfl) ?_
  refine mv_iload_n d_Scheme_takeObjection_0 rfl rfl ?_
  have := mz_hi x1
  refine mv_if_ltZ (tgt := 28) (a := x1.toInt) d_Scheme_takeObjection_1 (by decide) rfl (fun b1 => ?_) (fun b1 => ?_)
  · refine mv_iconst (v := 0) d_Scheme_takeObjection_28 (by decide) ?_
    exact mv_iret d_Scheme_takeObjection_29 rfl (by decide) ⟨_, I0, _, rfl, by decide, by decide⟩
  · refine mv_iload_n d_Scheme_takeObjection_4 rfl rfl ?_
    refine mv_bipush (v := 100) d_Scheme_takeObjection_5 (by decide) ?_
    have := mz_hi x1
    refine mv_icmp_geZ (tgt := 28) (a := x1.toInt) (b := 100) d_Scheme_takeObjection_7 (by decide) rfl (by decide) (fun b2 => ?_) (fun b2 => ?_)
    · refine mv_iconst (v := 0) d_Scheme_takeObjection_28 (by decide) ?_
      exact mv_iret d_Scheme_takeObjection_29 rfl (by decide) ⟨_, I0, _, rfl, by decide, by decide⟩
    · refine mv_aload_n d_Scheme_takeObjection_10 rfl rfl ?_
      obtain ⟨a4, q3, t_a4⟩ := tm_atR I0 h_o0 (k := 10) rfl
      refine tr_getK q3 d_Scheme_takeObjection_11 f_Scheme_15_11 ?_
      refine mv_iload_n d_Scheme_takeObjection_14 rfl rfl ?_
      refine tr_zald I0 t_a4 (by decide) d_Scheme_takeObjection_15 (vp_in_iff.mpr (by omega)) (fun v5 => ?_)
      have := mz_hi v5
      refine mv_if_neZ (tgt := 28) (a := v5.toInt) d_Scheme_takeObjection_16 (by decide) rfl (fun b6 => ?_) (fun b6 => ?_)
      · refine mv_iconst (v := 0) d_Scheme_takeObjection_28 (by decide) ?_
        exact mv_iret d_Scheme_takeObjection_29 rfl (by decide) ⟨_, I0, _, rfl, by decide, by decide⟩
      · refine mv_aload_n d_Scheme_takeObjection_19 rfl rfl ?_
        obtain ⟨v8, q7⟩ := tm_atI I0 h_o0 (k := 7) rfl
        refine tr_getK q7 d_Scheme_takeObjection_20 f_Scheme_38_11 ?_
        refine mv_bipush (v := 10) d_Scheme_takeObjection_23 (by decide) ?_
        have := mz_hi v8
        refine mv_icmp_ltZ (tgt := 30) (a := v8.toInt) (b := 10) d_Scheme_takeObjection_25 (by decide) rfl (by decide) (fun b9 => ?_) (fun b9 => ?_)
        · refine mv_aload_n d_Scheme_takeObjection_30 rfl rfl ?_
          refine tr_getK (k := 10) q3 d_Scheme_takeObjection_31 f_Scheme_15_11 ?_
          refine mv_iload_n d_Scheme_takeObjection_34 rfl rfl ?_
          refine mv_iconst (v := 1) d_Scheme_takeObjection_35 (by decide) ?_
          refine tr_zastK tm_okF I0 t_a4 (by decide) (Or.inl (by decide)) d_Scheme_takeObjection_36 (vp_in_iff.mpr (by omega)) (fun M10 I11 K12 => ?_)
          refine mv_aload_n d_Scheme_takeObjection_37 rfl rfl ?_
          refine mv_dup d_Scheme_takeObjection_38 rfl ?_
          refine tr_getK (k := 7) (K12 _ 11 7 _ q7) d_Scheme_takeObjection_39 f_Scheme_38_11 ?_
          refine mv_iconst (v := 1) d_Scheme_takeObjection_42 (by decide) ?_
          refine mv_iadd d_Scheme_takeObjection_43 ?_
          refine tr_putK tm_okF I11 h_o0 (k := 7) rfl ⟨_, rfl⟩ (Or.inl (by decide)) d_Scheme_takeObjection_44 p_Scheme_38_11 rfl rfl (fun M13 I14 q15 K16 => ?_)
          refine mv_iconst (v := 1) d_Scheme_takeObjection_47 (by decide) ?_
          exact mv_iret d_Scheme_takeObjection_48 rfl (by decide) ⟨_, I14, _, rfl, by decide, by decide⟩
        · refine mv_iconst (v := 0) d_Scheme_takeObjection_28 (by decide) ?_
          exact mv_iret d_Scheme_takeObjection_29 rfl (by decide) ⟨_, I0, _, rfl, by decide, by decide⟩
theorem lV_TrustDesk_288 : mj_lV "TrustDesk" 288 kY_Scheme_takeObjection 1 := ⟨⟨(mj_in1 (List.mem_of_getElem? (i := 1021) (by decide +kernel)) rfl), (mj_in1 (List.mem_of_getElem? (i := 25) (by decide +kernel)) rfl), (mj_in1 (List.mem_of_getElem? (i := 1024) (by decide +kernel)) rfl), by decide, rfl, by decide⟩, (mj_in1 (List.mem_of_getElem? (i := 1022) (by decide +kernel)) rfl), (mj_in1 (List.mem_of_getElem? (i := 1023) (by decide +kernel)) rfl)⟩
theorem d_TrustDesk_objects_42 : decode kY_TrustDesk_objects.2.1 42 = .ok (.ireturn, 1) := by decide +kernel
def w_TrustDesk_objects : List Nat := [1107, 1160]
theorem tc_TrustDesk_objects {g : mj_G} {l : Launch} {d : Nat} {T0 : tm_H} {M0 : mj_M} {n0 x9 : Nat} {o0 : Nat} {x1 : Int32} {x2 : Int32} (h_o0 : T0 o0 = some (0, 12, 0)) (I0 : tm_I tm_FT (tm_in w_TrustDesk_objects) x9 T0 M0 n0 T0 M0 n0) : mj_Met g l kY_TrustDesk_objects (d + 4) [.ref o0, .int x1, .int x2] M0 n0 0 0 (tm_Q tm_FT (tm_in w_TrustDesk_objects) x9 T0 M0 n0 (fun r _ _ => ∃ v : Int32, r = some (.int v) ∧ 0 ≤ v.toInt ∧ v.toInt ≤ 1)) := by
  refine mj_enter (by decide) (Nat.le_of_ble_eq_true rfl) ?_
  refine mv_aload_n d_TrustDesk_objects_0 rfl rfl ?_
  refine mv_iload_n d_TrustDesk_objects_1 rfl rfl ?_
  obtain ⟨_, b7, -⟩ := I0.1 _ _ h_o0
  refine mv_callV (kc' := 0) (ks' := 0) (As := [.int x1]) (st9 := [.int x1, .ref o0]) d_TrustDesk_objects_2 lV_TrustDesk_280 b7 rfl (tc_TrustDesk_schemeAt (d := d) (x9 := x9) (o0 := o0) (x1 := x1) h_o0 I0.start) rfl (Nat.le_of_ble_eq_true rfl) (Nat.le_of_ble_eq_true rfl) (Nat.le_of_ble_eq_true rfl) (hst := rfl) (fun b1r M2 n3 b1 => ?_)
  obtain ⟨T4, J5, b9⟩ := b1
  have I6 := I0.call J5 (tm_sub (by decide)) (Or.inl rfl)
  have t10 := J5.up h_o0
  rcases b9 with rfl | ⟨a8, rfl, t_a8⟩
  · refine mv_astore_nN (lv' := [(3, .null), (0, .ref o0), (1, .int x1), (2, .int x2)]) d_TrustDesk_objects_5 rfl (by decide) rfl ?_
    refine mv_aload_nN d_TrustDesk_objects_6 rfl rfl ?_
    refine mv_ifnullN (tgt := 35) d_TrustDesk_objects_7 (by decide) ?_
    refine mv_iconst (v := 0) d_TrustDesk_objects_35 (by decide) ?_
    exact mv_iret d_TrustDesk_objects_36 rfl (by decide) ⟨_, I6, _, rfl, by decide, by decide⟩
  · refine mv_astore_n (lv' := [(3, .ref a8), (0, .ref o0), (1, .int x1), (2, .int x2)]) d_TrustDesk_objects_5 rfl (by decide) rfl ?_
    refine mv_aload_n d_TrustDesk_objects_6 rfl rfl ?_
    refine mv_ifnull d_TrustDesk_objects_7 ?_
    refine mv_iload_n d_TrustDesk_objects_10 rfl rfl ?_
    refine mv_callS (kc' := 0) (ks' := 0) (As := [.int x2]) (st9 := [.int x2]) d_TrustDesk_objects_11 lS_TrustDesk_261 (tc_TrustDesk_isPerson (d := (d + 3)) (x9 := x9) (x1 := x2)  I6.start) rfl (Nat.le_of_ble_eq_true rfl) (Nat.le_of_ble_eq_true rfl) (Nat.le_of_ble_eq_true rfl) (hst := rfl) (fun b11r M12 n13 b11 => ?_)
    obtain ⟨T14, J15, v17, rfl, b18, b19⟩ := b11
    have I16 := I6.call J15 (tm_sub (by decide)) (Or.inl rfl)
    have t20 := J15.up t_a8
    have t21 := J15.up t10
    have := mz_hi v17
    refine mv_if_eqZ (tgt := 35) (a := v17.toInt) d_TrustDesk_objects_14 (by decide) rfl (fun b22 => ?_) (fun b22 => ?_)
    · refine mv_iconst (v := 0) d_TrustDesk_objects_35 (by decide) ?_
      exact mv_iret d_TrustDesk_objects_36 rfl (by decide) ⟨_, I16, _, rfl, by decide, by decide⟩
    · refine mv_aload_n d_TrustDesk_objects_17 rfl rfl ?_
      obtain ⟨v24, q23⟩ := tm_atI I16 t20 (k := 5) rfl
      refine tr_getK q23 d_TrustDesk_objects_18 f_TrustDesk_284_11 ?_
      have := mz_hi v24
      refine mv_if_neZ (tgt := 35) (a := v24.toInt) d_TrustDesk_objects_21 (by decide) rfl (fun b25 => ?_) (fun b25 => ?_)
      · refine mv_iconst (v := 0) d_TrustDesk_objects_35 (by decide) ?_
        exact mv_iret d_TrustDesk_objects_36 rfl (by decide) ⟨_, I16, _, rfl, by decide, by decide⟩
      · refine mv_aload_n d_TrustDesk_objects_24 rfl rfl ?_
        obtain ⟨v27, q26⟩ := tm_atI I16 t21 (k := 12) rfl
        refine tr_getK q26 d_TrustDesk_objects_25 f_TrustDesk_73_12 ?_
        refine mv_aload_n d_TrustDesk_objects_28 rfl rfl ?_
        obtain ⟨v29, q28⟩ := tm_atI I16 t20 (k := 4) rfl
        refine tr_getK q28 d_TrustDesk_objects_29 f_TrustDesk_285_11 ?_
        have := mz_hi v27
        have := mz_hi v29
        refine mv_icmp_leZ (tgt := 37) (a := v27.toInt) (b := v29.toInt) d_TrustDesk_objects_32 (by decide) rfl rfl (fun b30 => ?_) (fun b30 => ?_)
        · refine mv_aload_n d_TrustDesk_objects_37 rfl rfl ?_
          refine mv_iload_n d_TrustDesk_objects_38 rfl rfl ?_
          obtain ⟨_, b37, -⟩ := I16.1 _ _ t20
          refine mv_callV (kc' := 0) (ks' := 0) (As := [.int x2]) (st9 := [.int x2, .ref a8]) d_TrustDesk_objects_39 lV_TrustDesk_288 b37 rfl (tc_Scheme_takeObjection (d := (d + 3)) (x9 := x9) (o0 := a8) (x1 := x2) t20 I16.start) rfl (Nat.le_of_ble_eq_true rfl) (Nat.le_of_ble_eq_true rfl) (Nat.le_of_ble_eq_true rfl) (hst := rfl) (fun b31r M32 n33 b31 => ?_)
          obtain ⟨T34, J35, v38, rfl, b39, b40⟩ := b31
          have I36 := I16.call J35 (tm_sub (by decide)) (Or.inl rfl)
          have t41 := J35.up t20
          have t42 := J35.up t21
          have q43 := J35.keep t20 (by decide) q23
          have q44 := J35.keep t21 (by decide) q26
          have q45 := J35.keep t20 (by decide) q28
          exact mv_iret d_TrustDesk_objects_42 rfl (mz_nb (by omega) (by omega)) ⟨_, I36, _, rfl, by omega, by omega⟩
        · refine mv_iconst (v := 0) d_TrustDesk_objects_35 (by decide) ?_
          exact mv_iret d_TrustDesk_objects_36 rfl (by decide) ⟨_, I16, _, rfl, by decide, by decide⟩
abbrev kY_TrustDesk_paid : mj_Y := (⟨"TrustDesk", "paid", "(I)J"⟩, prog_1_method_42_code, 3, (Option.some Jvm.ClassFile.FieldType.long))
theorem d_TrustDesk_paid_0 : decode kY_TrustDesk_paid.2.1 0 = .ok (.aload_n 0, 1) := by decide +kernel
theorem d_TrustDesk_paid_1 : decode kY_TrustDesk_paid.2.1 1 = .ok (.iload_n 1, 1) := by decide +kernel
theorem d_TrustDesk_paid_2 : decode kY_TrustDesk_paid.2.1 2 = .ok (.invokevirtual 257, 3) := by decide +kernel
theorem d_TrustDesk_paid_5 : decode kY_TrustDesk_paid.2.1 5 = .ok (.astore_n 2, 1) := by decide +kernel
theorem d_TrustDesk_paid_6 : decode kY_TrustDesk_paid.2.1 6 = .ok (.aload_n 2, 1) := by decide +kernel
theorem d_TrustDesk_paid_7 : decode kY_TrustDesk_paid.2.1 7 = .ok (.ifnonnull 9, 3) := by decide +kernel
theorem d_TrustDesk_paid_10 : decode kY_TrustDesk_paid.2.1 10 = .ok (.ldc2_w 463, 3) := by decide +kernel
theorem d_TrustDesk_paid_13 : decode kY_TrustDesk_paid.2.1 13 = .ok (.goto 7, 3) := by decide +kernel
theorem d_TrustDesk_paid_20 : decode kY_TrustDesk_paid.2.1 20 = .ok (.lreturn, 1) := by decide +kernel
theorem d_TrustDesk_paid_16 : decode kY_TrustDesk_paid.2.1 16 = .ok (.aload_n 2, 1) := by decide +kernel
theorem d_TrustDesk_paid_17 : decode kY_TrustDesk_paid.2.1 17 = .ok (.getfield 251, 3) := by decide +kernel
theorem f_TrustDesk_251_6 : mj_fl "TrustDesk" 251 6 10 := ⟨kR_Fund, kF_Fund, 15, "TrustDesk$Fund", rfl, kg_6, by decide, (mj_in1 (List.mem_of_getElem? (i := 687) (by decide +kernel)) rfl), Or.inl rfl⟩
def w_TrustDesk_paid : List Nat := []
theorem tc_TrustDesk_paid {g : mj_G} {l : Launch} {d : Nat} {T0 : tm_H} {M0 : mj_M} {n0 x9 : Nat} {o0 : Nat} {x1 : Int32} (h_o0 : T0 o0 = some (0, 12, 0)) (I0 : tm_I tm_FT (tm_in w_TrustDesk_paid) x9 T0 M0 n0 T0 M0 n0) : mj_Met g l kY_TrustDesk_paid (d + 4) [.ref o0, .int x1] M0 n0 0 0 (tm_Q tm_FT (tm_in w_TrustDesk_paid) x9 T0 M0 n0 (fun r _ _ => ∃ v : Int64, r = some (.long v))) := by
  refine mj_enter (by decide) (Nat.le_of_ble_eq_true rfl) ?_
  refine mv_aload_n d_TrustDesk_paid_0 rfl rfl ?_
  refine mv_iload_n d_TrustDesk_paid_1 rfl rfl ?_
  obtain ⟨_, b7, -⟩ := I0.1 _ _ h_o0
  refine mv_callV (kc' := 0) (ks' := 0) (As := [.int x1]) (st9 := [.int x1, .ref o0]) d_TrustDesk_paid_2 lV_TrustDesk_257 b7 rfl (tc_TrustDesk_fundAt (d := d) (x9 := x9) (o0 := o0) (x1 := x1) h_o0 I0.start) rfl (Nat.le_of_ble_eq_true rfl) (Nat.le_of_ble_eq_true rfl) (Nat.le_of_ble_eq_true rfl) (hst := rfl) (fun b1r M2 n3 b1 => ?_)
  obtain ⟨T4, J5, b9⟩ := b1
  have I6 := I0.call J5 (tm_sub (by decide)) (Or.inl rfl)
  have t10 := J5.up h_o0
  rcases b9 with rfl | ⟨a8, rfl, t_a8⟩
  · refine mv_astore_nN (lv' := [(2, .null), (0, .ref o0), (1, .int x1)]) d_TrustDesk_paid_5 rfl (by decide) rfl ?_
    refine mv_aload_nN d_TrustDesk_paid_6 rfl rfl ?_
    refine mv_ifnonnullN d_TrustDesk_paid_7 ?_
    refine mv_ldc2 d_TrustDesk_paid_10 k_TrustDesk_463 ?_
    refine mv_goto (tgt := 20) d_TrustDesk_paid_13 (by decide) ?_
    exact mv_lret d_TrustDesk_paid_20 rfl ⟨_, I6, _, rfl⟩
  · refine mv_astore_n (lv' := [(2, .ref a8), (0, .ref o0), (1, .int x1)]) d_TrustDesk_paid_5 rfl (by decide) rfl ?_
    refine mv_aload_n d_TrustDesk_paid_6 rfl rfl ?_
    refine mv_ifnonnull (tgt := 16) d_TrustDesk_paid_7 (by decide) ?_
    refine mv_aload_n d_TrustDesk_paid_16 rfl rfl ?_
    obtain ⟨v12, q11⟩ := tm_atL I6 t_a8 (k := 10) rfl
    refine tr_getK q11 d_TrustDesk_paid_17 f_TrustDesk_251_6 ?_
    exact mv_lret d_TrustDesk_paid_20 rfl ⟨_, I6, _, rfl⟩
abbrev kY_TrustDesk_part : mj_Y := (⟨"TrustDesk", "part", "(II)I"⟩, prog_1_method_41_code, 4, (Option.some Jvm.ClassFile.FieldType.int))
theorem d_TrustDesk_part_0 : decode kY_TrustDesk_part.2.1 0 = .ok (.aload_n 0, 1) := by decide +kernel
theorem d_TrustDesk_part_1 : decode kY_TrustDesk_part.2.1 1 = .ok (.iload_n 1, 1) := by decide +kernel
theorem d_TrustDesk_part_2 : decode kY_TrustDesk_part.2.1 2 = .ok (.invokevirtual 257, 3) := by decide +kernel
theorem d_TrustDesk_part_5 : decode kY_TrustDesk_part.2.1 5 = .ok (.astore_n 3, 1) := by decide +kernel
theorem d_TrustDesk_part_6 : decode kY_TrustDesk_part.2.1 6 = .ok (.aload_n 3, 1) := by decide +kernel
theorem d_TrustDesk_part_7 : decode kY_TrustDesk_part.2.1 7 = .ok (.ifnull 11, 3) := by decide +kernel
theorem d_TrustDesk_part_18 : decode kY_TrustDesk_part.2.1 18 = .ok (.iconst (-1), 1) := by decide +kernel
theorem d_TrustDesk_part_19 : decode kY_TrustDesk_part.2.1 19 = .ok (.goto 8, 3) := by decide +kernel
theorem d_TrustDesk_part_27 : decode kY_TrustDesk_part.2.1 27 = .ok (.ireturn, 1) := by decide +kernel
theorem d_TrustDesk_part_10 : decode kY_TrustDesk_part.2.1 10 = .ok (.aload_n 0, 1) := by decide +kernel
theorem d_TrustDesk_part_11 : decode kY_TrustDesk_part.2.1 11 = .ok (.iload_n 2, 1) := by decide +kernel
theorem d_TrustDesk_part_12 : decode kY_TrustDesk_part.2.1 12 = .ok (.invokevirtual 257, 3) := by decide +kernel
theorem d_TrustDesk_part_15 : decode kY_TrustDesk_part.2.1 15 = .ok (.ifnonnull 7, 3) := by decide +kernel
theorem d_TrustDesk_part_22 : decode kY_TrustDesk_part.2.1 22 = .ok (.aload_n 3, 1) := by decide +kernel
theorem d_TrustDesk_part_23 : decode kY_TrustDesk_part.2.1 23 = .ok (.iload_n 2, 1) := by decide +kernel
theorem d_TrustDesk_part_24 : decode kY_TrustDesk_part.2.1 24 = .ok (.invokevirtual 246, 3) := by decide +kernel
abbrev kY_Fund_partOf : mj_Y := (⟨"TrustDesk$Fund", "partOf", "(I)I"⟩, prog_7_method_5_code, 2, (Option.some Jvm.ClassFile.FieldType.int))
theorem d_Fund_partOf_0 : decode kY_Fund_partOf.2.1 0 = .ok (.iload_n 1, 1) := by decide +kernel
theorem d_Fund_partOf_1 : decode kY_Fund_partOf.2.1 1 = .ok (.ifCond .lt 18, 3) := by decide +kernel
theorem d_Fund_partOf_19 : decode kY_Fund_partOf.2.1 19 = .ok (.iconst 0, 1) := by decide +kernel
theorem d_Fund_partOf_20 : decode kY_Fund_partOf.2.1 20 = .ok (.ireturn, 1) := by decide +kernel
theorem d_Fund_partOf_4 : decode kY_Fund_partOf.2.1 4 = .ok (.iload_n 1, 1) := by decide +kernel
theorem d_Fund_partOf_5 : decode kY_Fund_partOf.2.1 5 = .ok (.bipush 12, 2) := by decide +kernel
theorem d_Fund_partOf_7 : decode kY_Fund_partOf.2.1 7 = .ok (.if_icmp .ge 12, 3) := by decide +kernel
theorem d_Fund_partOf_10 : decode kY_Fund_partOf.2.1 10 = .ok (.aload_n 0, 1) := by decide +kernel
theorem d_Fund_partOf_11 : decode kY_Fund_partOf.2.1 11 = .ok (.getfield 28, 3) := by decide +kernel
theorem f_Fund_28_6 : mj_fl "TrustDesk$Fund" 28 6 12 := ⟨kR_Fund, kF_Fund, 15, "TrustDesk$Fund", rfl, kg_6, by decide, (mj_in1 (List.mem_of_getElem? (i := 691) (by decide +kernel)) rfl), Or.inl rfl⟩
theorem d_Fund_partOf_14 : decode kY_Fund_partOf.2.1 14 = .ok (.iload_n 1, 1) := by decide +kernel
theorem d_Fund_partOf_15 : decode kY_Fund_partOf.2.1 15 = .ok (.iaload, 1) := by decide +kernel
theorem d_Fund_partOf_16 : decode kY_Fund_partOf.2.1 16 = .ok (.goto 4, 3) := by decide +kernel
def w_Fund_partOf : List Nat := []
theorem tc_Fund_partOf {g : mj_G} {l : Launch} {d : Nat} {T0 : tm_H} {M0 : mj_M} {n0 x9 : Nat} {o0 : Nat} {x1 : Int32} (h_o0 : T0 o0 = some (0, 6, 0)) (I0 : tm_I tm_FT (tm_in w_Fund_partOf) x9 T0 M0 n0 T0 M0 n0) : mj_Met g l kY_Fund_partOf d [.ref o0, .int x1] M0 n0 0 0 (tm_Q tm_FT (tm_in w_Fund_partOf) x9 T0 M0 n0 (fun r _ _ => ∃ v : Int32, r = some (.int v))) := by
  refine mj_enter (by decide) (Nat.le_of_ble_eq_true rfl) ?_
  refine mv_iload_n d_Fund_partOf_0 rfl rfl ?_
  have := mz_hi x1
  refine mv_if_ltZ (tgt := 19) (a := x1.toInt) d_Fund_partOf_1 (by decide) rfl (fun b1 => ?_) (fun b1 => ?_)
  · refine mv_iconst (v := 0) d_Fund_partOf_19 (by decide) ?_
    exact mv_iret d_Fund_partOf_20 rfl (by first | rfl | decide) ⟨_, I0, _, rfl⟩
  · refine mv_iload_n d_Fund_partOf_4 rfl rfl ?_
    refine mv_bipush (v := 12) d_Fund_partOf_5 (by decide) ?_
    have := mz_hi x1
    refine mv_icmp_geZ (tgt := 19) (a := x1.toInt) (b := 12) d_Fund_partOf_7 (by decide) rfl (by decide) (fun b2 => ?_) (fun b2 => ?_)
    · refine mv_iconst (v := 0) d_Fund_partOf_19 (by decide) ?_
      exact mv_iret d_Fund_partOf_20 rfl (by first | rfl | decide) ⟨_, I0, _, rfl⟩
    · refine mv_aload_n d_Fund_partOf_10 rfl rfl ?_
      obtain ⟨a4, q3, t_a4⟩ := tm_atR I0 h_o0 (k := 12) rfl
      refine tr_getK q3 d_Fund_partOf_11 f_Fund_28_6 ?_
      refine mv_iload_n d_Fund_partOf_14 rfl rfl ?_
      refine tr_iald I0 t_a4 (by decide) d_Fund_partOf_15 (vp_in_iff.mpr (by omega)) (fun v5 => ?_)
      refine mv_goto (tgt := 20) d_Fund_partOf_16 (by decide) ?_
      exact mv_iret d_Fund_partOf_20 rfl (by first | rfl | decide) ⟨_, I0, _, rfl⟩
theorem lV_TrustDesk_246 : mj_lV "TrustDesk" 246 kY_Fund_partOf 1 := ⟨⟨(mj_in1 (List.mem_of_getElem? (i := 925) (by decide +kernel)) rfl), (mj_in1 (List.mem_of_getElem? (i := 21) (by decide +kernel)) rfl), (mj_in1 (List.mem_of_getElem? (i := 928) (by decide +kernel)) rfl), by decide, rfl, by decide⟩, (mj_in1 (List.mem_of_getElem? (i := 926) (by decide +kernel)) rfl), (mj_in1 (List.mem_of_getElem? (i := 927) (by decide +kernel)) rfl)⟩
def w_TrustDesk_part : List Nat := []
theorem tc_TrustDesk_part {g : mj_G} {l : Launch} {d : Nat} {T0 : tm_H} {M0 : mj_M} {n0 x9 : Nat} {o0 : Nat} {x1 : Int32} {x2 : Int32} (h_o0 : T0 o0 = some (0, 12, 0)) (I0 : tm_I tm_FT (tm_in w_TrustDesk_part) x9 T0 M0 n0 T0 M0 n0) : mj_Met g l kY_TrustDesk_part (d + 4) [.ref o0, .int x1, .int x2] M0 n0 0 0 (tm_Q tm_FT (tm_in w_TrustDesk_part) x9 T0 M0 n0 (fun r _ _ => ∃ v : Int32, r = some (.int v))) := by
  refine mj_enter (by decide) (Nat.le_of_ble_eq_true rfl) ?_
  refine mv_aload_n d_TrustDesk_part_0 rfl rfl ?_
  refine mv_iload_n d_TrustDesk_part_1 rfl rfl ?_
  obtain ⟨_, b7, -⟩ := I0.1 _ _ h_o0
  refine mv_callV (kc' := 0) (ks' := 0) (As := [.int x1]) (st9 := [.int x1, .ref o0]) d_TrustDesk_part_2 lV_TrustDesk_257 b7 rfl (tc_TrustDesk_fundAt (d := d) (x9 := x9) (o0 := o0) (x1 := x1) h_o0 I0.start) rfl (Nat.le_of_ble_eq_true rfl) (Nat.le_of_ble_eq_true rfl) (Nat.le_of_ble_eq_true rfl) (hst := rfl) (fun b1r M2 n3 b1 => ?_)
  obtain ⟨T4, J5, b9⟩ := b1
  have I6 := I0.call J5 (tm_sub (by decide)) (Or.inl rfl)
  have t10 := J5.up h_o0
  rcases b9 with rfl | ⟨a8, rfl, t_a8⟩
  · refine mv_astore_nN (lv' := [(3, .null), (0, .ref o0), (1, .int x1), (2, .int x2)]) d_TrustDesk_part_5 rfl (by decide) rfl ?_
    refine mv_aload_nN d_TrustDesk_part_6 rfl rfl ?_
    refine mv_ifnullN (tgt := 18) d_TrustDesk_part_7 (by decide) ?_
    refine mv_iconst (v := (-1)) d_TrustDesk_part_18 (by decide) ?_
    refine mv_goto (tgt := 27) d_TrustDesk_part_19 (by decide) ?_
    exact mv_iret d_TrustDesk_part_27 rfl (by first | rfl | decide) ⟨_, I6, _, rfl⟩
  · refine mv_astore_n (lv' := [(3, .ref a8), (0, .ref o0), (1, .int x1), (2, .int x2)]) d_TrustDesk_part_5 rfl (by decide) rfl ?_
    refine mv_aload_n d_TrustDesk_part_6 rfl rfl ?_
    refine mv_ifnull d_TrustDesk_part_7 ?_
    refine mv_aload_n d_TrustDesk_part_10 rfl rfl ?_
    refine mv_iload_n d_TrustDesk_part_11 rfl rfl ?_
    obtain ⟨_, b17, -⟩ := I6.1 _ _ t10
    refine mv_callV (kc' := 0) (ks' := 0) (As := [.int x2]) (st9 := [.int x2, .ref o0]) d_TrustDesk_part_12 lV_TrustDesk_257 b17 rfl (tc_TrustDesk_fundAt (d := d) (x9 := x9) (o0 := o0) (x1 := x2) t10 I6.start) rfl (Nat.le_of_ble_eq_true rfl) (Nat.le_of_ble_eq_true rfl) (Nat.le_of_ble_eq_true rfl) (hst := rfl) (fun b11r M12 n13 b11 => ?_)
    obtain ⟨T14, J15, b19⟩ := b11
    have I16 := I6.call J15 (tm_sub (by decide)) (Or.inl rfl)
    have t20 := J15.up t_a8
    have t21 := J15.up t10
    rcases b19 with rfl | ⟨a18, rfl, t_a18⟩
    · refine mv_ifnonnullN d_TrustDesk_part_15 ?_
      refine mv_iconst (v := (-1)) d_TrustDesk_part_18 (by decide) ?_
      refine mv_goto (tgt := 27) d_TrustDesk_part_19 (by decide) ?_
      exact mv_iret d_TrustDesk_part_27 rfl (by first | rfl | decide) ⟨_, I16, _, rfl⟩
    · refine mv_ifnonnull (tgt := 22) d_TrustDesk_part_15 (by decide) ?_
      refine mv_aload_n d_TrustDesk_part_22 rfl rfl ?_
      refine mv_iload_n d_TrustDesk_part_23 rfl rfl ?_
      obtain ⟨_, b28, -⟩ := I16.1 _ _ t20
      refine mv_callV (kc' := 0) (ks' := 0) (As := [.int x2]) (st9 := [.int x2, .ref a8]) d_TrustDesk_part_24 lV_TrustDesk_246 b28 rfl (tc_Fund_partOf (d := (d + 3)) (x9 := x9) (o0 := a8) (x1 := x2) t20 I16.start) rfl (Nat.le_of_ble_eq_true rfl) (Nat.le_of_ble_eq_true rfl) (Nat.le_of_ble_eq_true rfl) (hst := rfl) (fun b22r M23 n24 b22 => ?_)
      obtain ⟨T25, J26, v29, rfl⟩ := b22
      have I27 := I16.call J26 (tm_sub (by decide)) (Or.inl rfl)
      have t30 := J26.up t20
      have t31 := J26.up t21
      exact mv_iret d_TrustDesk_part_27 rfl (by first | rfl | decide) ⟨_, I27, _, rfl⟩
abbrev kY_TrustDesk_place : mj_Y := (⟨"TrustDesk", "place", "()I"⟩, prog_1_method_10_code, 1, (Option.some Jvm.ClassFile.FieldType.int))
theorem d_TrustDesk_place_0 : decode kY_TrustDesk_place.2.1 0 = .ok (.aload_n 0, 1) := by decide +kernel
theorem d_TrustDesk_place_1 : decode kY_TrustDesk_place.2.1 1 = .ok (.getfield 19, 3) := by decide +kernel
theorem d_TrustDesk_place_4 : decode kY_TrustDesk_place.2.1 4 = .ok (.getfield 144, 3) := by decide +kernel
theorem f_TrustDesk_144_9 : mj_fl "TrustDesk" 144 9 2 := ⟨kR_Reader, kF_Reader, 19, "TrustDesk$Reader", rfl, kg_9, by decide, (mj_in1 (List.mem_of_getElem? (i := 74) (by decide +kernel)) rfl), Or.inl rfl⟩
theorem d_TrustDesk_place_7 : decode kY_TrustDesk_place.2.1 7 = .ok (.ireturn, 1) := by decide +kernel
def w_TrustDesk_place : List Nat := []
theorem tc_TrustDesk_place {g : mj_G} {l : Launch} {d : Nat} {T0 : tm_H} {M0 : mj_M} {n0 x9 : Nat} {o0 : Nat} (h_o0 : T0 o0 = some (0, 12, 0)) (I0 : tm_I tm_FT (tm_in w_TrustDesk_place) x9 T0 M0 n0 T0 M0 n0) : mj_Met g l kY_TrustDesk_place d [.ref o0] M0 n0 0 0 (tm_Q tm_FT (tm_in w_TrustDesk_place) x9 T0 M0 n0 (fun r _ _ => ∃ v : Int32, r = some (.int v))) := by
  refine mj_enter (by decide) (Nat.le_of_ble_eq_true rfl) ?_
  refine mv_aload_n d_TrustDesk_place_0 rfl rfl ?_
  obtain ⟨a2, q1, t_a2⟩ := tm_atR I0 h_o0 (k := 1) rfl
  refine tr_getK q1 d_TrustDesk_place_1 f_TrustDesk_19_12 ?_
  obtain ⟨v4, q3⟩ := tm_atI I0 t_a2 (k := 2) rfl
  refine tr_getK q3 d_TrustDesk_place_4 f_TrustDesk_144_9 ?_
  exact mv_iret d_TrustDesk_place_7 rfl (by first | rfl | decide) ⟨_, I0, _, rfl⟩
abbrev kY_TrustDesk_scheme : mj_Y := (⟨"TrustDesk", "scheme", "(II)I"⟩, prog_1_method_37_code, 4, (Option.some Jvm.ClassFile.FieldType.int))
theorem d_TrustDesk_scheme_0 : decode kY_TrustDesk_scheme.2.1 0 = .ok (.aload_n 0, 1) := by decide +kernel
theorem d_TrustDesk_scheme_1 : decode kY_TrustDesk_scheme.2.1 1 = .ok (.iload_n 1, 1) := by decide +kernel
theorem d_TrustDesk_scheme_2 : decode kY_TrustDesk_scheme.2.1 2 = .ok (.invokevirtual 280, 3) := by decide +kernel
theorem d_TrustDesk_scheme_5 : decode kY_TrustDesk_scheme.2.1 5 = .ok (.astore_n 3, 1) := by decide +kernel
theorem d_TrustDesk_scheme_6 : decode kY_TrustDesk_scheme.2.1 6 = .ok (.aload_n 3, 1) := by decide +kernel
theorem d_TrustDesk_scheme_7 : decode kY_TrustDesk_scheme.2.1 7 = .ok (.ifnonnull 5, 3) := by decide +kernel
theorem d_TrustDesk_scheme_10 : decode kY_TrustDesk_scheme.2.1 10 = .ok (.iconst (-1), 1) := by decide +kernel
theorem d_TrustDesk_scheme_11 : decode kY_TrustDesk_scheme.2.1 11 = .ok (.ireturn, 1) := by decide +kernel
theorem d_TrustDesk_scheme_12 : decode kY_TrustDesk_scheme.2.1 12 = .ok (.iload_n 2, 1) := by decide +kernel
theorem d_TrustDesk_scheme_13 : decode kY_TrustDesk_scheme.2.1 13 = .ok (.tableswitch 105 0 9 #[55, 60, 65, 70, 75, 80, 85, 90, 95, 100], 55) := by decide +kernel
theorem d_TrustDesk_scheme_118 : decode kY_TrustDesk_scheme.2.1 118 = .ok (.iconst (-1), 1) := by decide +kernel
theorem d_TrustDesk_scheme_119 : decode kY_TrustDesk_scheme.2.1 119 = .ok (.ireturn, 1) := by decide +kernel
theorem d_TrustDesk_scheme_68 : decode kY_TrustDesk_scheme.2.1 68 = .ok (.aload_n 3, 1) := by decide +kernel
theorem d_TrustDesk_scheme_69 : decode kY_TrustDesk_scheme.2.1 69 = .ok (.getfield 308, 3) := by decide +kernel
theorem d_TrustDesk_scheme_72 : decode kY_TrustDesk_scheme.2.1 72 = .ok (.ireturn, 1) := by decide +kernel
theorem d_TrustDesk_scheme_73 : decode kY_TrustDesk_scheme.2.1 73 = .ok (.aload_n 3, 1) := by decide +kernel
theorem d_TrustDesk_scheme_74 : decode kY_TrustDesk_scheme.2.1 74 = .ok (.getfield 302, 3) := by decide +kernel
theorem d_TrustDesk_scheme_77 : decode kY_TrustDesk_scheme.2.1 77 = .ok (.ireturn, 1) := by decide +kernel
theorem d_TrustDesk_scheme_78 : decode kY_TrustDesk_scheme.2.1 78 = .ok (.aload_n 3, 1) := by decide +kernel
theorem d_TrustDesk_scheme_79 : decode kY_TrustDesk_scheme.2.1 79 = .ok (.getfield 311, 3) := by decide +kernel
theorem d_TrustDesk_scheme_82 : decode kY_TrustDesk_scheme.2.1 82 = .ok (.ireturn, 1) := by decide +kernel
theorem d_TrustDesk_scheme_83 : decode kY_TrustDesk_scheme.2.1 83 = .ok (.aload_n 3, 1) := by decide +kernel
theorem d_TrustDesk_scheme_84 : decode kY_TrustDesk_scheme.2.1 84 = .ok (.getfield 433, 3) := by decide +kernel
theorem f_TrustDesk_433_11 : mj_fl "TrustDesk" 433 11 3 := ⟨kR_Scheme, kF_Scheme, 12, "TrustDesk$Scheme", rfl, kg_11, by decide, (mj_in1 (List.mem_of_getElem? (i := 974) (by decide +kernel)) rfl), Or.inl rfl⟩
theorem d_TrustDesk_scheme_87 : decode kY_TrustDesk_scheme.2.1 87 = .ok (.ireturn, 1) := by decide +kernel
theorem d_TrustDesk_scheme_88 : decode kY_TrustDesk_scheme.2.1 88 = .ok (.aload_n 3, 1) := by decide +kernel
theorem d_TrustDesk_scheme_89 : decode kY_TrustDesk_scheme.2.1 89 = .ok (.getfield 285, 3) := by decide +kernel
theorem d_TrustDesk_scheme_92 : decode kY_TrustDesk_scheme.2.1 92 = .ok (.ireturn, 1) := by decide +kernel
theorem d_TrustDesk_scheme_93 : decode kY_TrustDesk_scheme.2.1 93 = .ok (.aload_n 3, 1) := by decide +kernel
theorem d_TrustDesk_scheme_94 : decode kY_TrustDesk_scheme.2.1 94 = .ok (.getfield 284, 3) := by decide +kernel
theorem d_TrustDesk_scheme_97 : decode kY_TrustDesk_scheme.2.1 97 = .ok (.ireturn, 1) := by decide +kernel
theorem d_TrustDesk_scheme_98 : decode kY_TrustDesk_scheme.2.1 98 = .ok (.aload_n 3, 1) := by decide +kernel
theorem d_TrustDesk_scheme_99 : decode kY_TrustDesk_scheme.2.1 99 = .ok (.getfield 318, 3) := by decide +kernel
theorem f_TrustDesk_318_11 : mj_fl "TrustDesk" 318 11 6 := ⟨kR_Scheme, kF_Scheme, 12, "TrustDesk$Scheme", rfl, kg_11, by decide, (mj_in1 (List.mem_of_getElem? (i := 979) (by decide +kernel)) rfl), Or.inl rfl⟩
theorem d_TrustDesk_scheme_102 : decode kY_TrustDesk_scheme.2.1 102 = .ok (.ireturn, 1) := by decide +kernel
theorem d_TrustDesk_scheme_103 : decode kY_TrustDesk_scheme.2.1 103 = .ok (.aload_n 3, 1) := by decide +kernel
theorem d_TrustDesk_scheme_104 : decode kY_TrustDesk_scheme.2.1 104 = .ok (.getfield 345, 3) := by decide +kernel
theorem f_TrustDesk_345_11 : mj_fl "TrustDesk" 345 11 7 := ⟨kR_Scheme, kF_Scheme, 12, "TrustDesk$Scheme", rfl, kg_11, by decide, (mj_in1 (List.mem_of_getElem? (i := 981) (by decide +kernel)) rfl), Or.inl rfl⟩
theorem d_TrustDesk_scheme_107 : decode kY_TrustDesk_scheme.2.1 107 = .ok (.ireturn, 1) := by decide +kernel
theorem d_TrustDesk_scheme_108 : decode kY_TrustDesk_scheme.2.1 108 = .ok (.aload_n 3, 1) := by decide +kernel
theorem d_TrustDesk_scheme_109 : decode kY_TrustDesk_scheme.2.1 109 = .ok (.getfield 436, 3) := by decide +kernel
theorem f_TrustDesk_436_11 : mj_fl "TrustDesk" 436 11 8 := ⟨kR_Scheme, kF_Scheme, 12, "TrustDesk$Scheme", rfl, kg_11, by decide, (mj_in1 (List.mem_of_getElem? (i := 983) (by decide +kernel)) rfl), Or.inl rfl⟩
theorem d_TrustDesk_scheme_112 : decode kY_TrustDesk_scheme.2.1 112 = .ok (.ireturn, 1) := by decide +kernel
theorem d_TrustDesk_scheme_113 : decode kY_TrustDesk_scheme.2.1 113 = .ok (.aload_n 3, 1) := by decide +kernel
theorem d_TrustDesk_scheme_114 : decode kY_TrustDesk_scheme.2.1 114 = .ok (.getfield 439, 3) := by decide +kernel
theorem f_TrustDesk_439_11 : mj_fl "TrustDesk" 439 11 9 := ⟨kR_Scheme, kF_Scheme, 12, "TrustDesk$Scheme", rfl, kg_11, by decide, (mj_in1 (List.mem_of_getElem? (i := 985) (by decide +kernel)) rfl), Or.inl rfl⟩
theorem d_TrustDesk_scheme_117 : decode kY_TrustDesk_scheme.2.1 117 = .ok (.ireturn, 1) := by decide +kernel
def w_TrustDesk_scheme : List Nat := []
theorem tc_TrustDesk_scheme {g : mj_G} {l : Launch} {d : Nat} {T0 : tm_H} {M0 : mj_M} {n0 x9 : Nat} {o0 : Nat} {x1 : Int32} {x2 : Int32} (h_o0 : T0 o0 = some (0, 12, 0)) (I0 : tm_I tm_FT (tm_in w_TrustDesk_scheme) x9 T0 M0 n0 T0 M0 n0) : mj_Met g l kY_TrustDesk_scheme (d + 4) [.ref o0, .int x1, .int x2] M0 n0 0 0 (tm_Q tm_FT (tm_in w_TrustDesk_scheme) x9 T0 M0 n0 (fun r _ _ => ∃ v : Int32, r = some (.int v))) := by
  refine mj_enter (by decide) (Nat.le_of_ble_eq_true rfl) ?_
  refine mv_aload_n d_TrustDesk_scheme_0 rfl rfl ?_
  refine mv_iload_n d_TrustDesk_scheme_1 rfl rfl ?_
  obtain ⟨_, b7, -⟩ := I0.1 _ _ h_o0
  refine mv_callV (kc' := 0) (ks' := 0) (As := [.int x1]) (st9 := [.int x1, .ref o0]) d_TrustDesk_scheme_2 lV_TrustDesk_280 b7 rfl (tc_TrustDesk_schemeAt (d := d) (x9 := x9) (o0 := o0) (x1 := x1) h_o0 I0.start) rfl (Nat.le_of_ble_eq_true rfl) (Nat.le_of_ble_eq_true rfl) (Nat.le_of_ble_eq_true rfl) (hst := rfl) (fun b1r M2 n3 b1 => ?_)
  obtain ⟨T4, J5, b9⟩ := b1
  have I6 := I0.call J5 (tm_sub (by decide)) (Or.inl rfl)
  have t10 := J5.up h_o0
  rcases b9 with rfl | ⟨a8, rfl, t_a8⟩
  · refine mv_astore_nN (lv' := [(3, .null), (0, .ref o0), (1, .int x1), (2, .int x2)]) d_TrustDesk_scheme_5 rfl (by decide) rfl ?_
    refine mv_aload_nN d_TrustDesk_scheme_6 rfl rfl ?_
    refine mv_ifnonnullN d_TrustDesk_scheme_7 ?_
    refine mv_iconst (v := (-1)) d_TrustDesk_scheme_10 (by decide) ?_
    exact mv_iret d_TrustDesk_scheme_11 rfl (by first | rfl | decide) ⟨_, I6, _, rfl⟩
  · refine mv_astore_n (lv' := [(3, .ref a8), (0, .ref o0), (1, .int x1), (2, .int x2)]) d_TrustDesk_scheme_5 rfl (by decide) rfl ?_
    refine mv_aload_n d_TrustDesk_scheme_6 rfl rfl ?_
    refine mv_ifnonnull (tgt := 12) d_TrustDesk_scheme_7 (by decide) ?_
    refine mv_iload_n d_TrustDesk_scheme_12 rfl rfl ?_
    rcases (show (x2.toInt < 0 ∨ 9 < x2.toInt) ∨ x2.toInt = 0 ∨ x2.toInt = 1 ∨ x2.toInt = 2 ∨ x2.toInt = 3 ∨ x2.toInt = 4 ∨ x2.toInt = 5 ∨ x2.toInt = 6 ∨ x2.toInt = 7 ∨ x2.toInt = 8 ∨ x2.toInt = 9 by omega) with b11 | b11 | b11 | b11 | b11 | b11 | b11 | b11 | b11 | b11 | b11
    · refine mv_tableOut (tgt := 118) d_TrustDesk_scheme_13 b11 (by decide) ?_
      refine mv_iconst (v := (-1)) d_TrustDesk_scheme_118 (by decide) ?_
      exact mv_iret d_TrustDesk_scheme_119 rfl (by first | rfl | decide) ⟨_, I6, _, rfl⟩
    · refine mv_tableIn (tgt := 68) (off := 55) d_TrustDesk_scheme_13 (by omega) (by omega) (by rw [b11]; rfl) (by decide) ?_
      refine mv_aload_n d_TrustDesk_scheme_68 rfl rfl ?_
      obtain ⟨v13, q12⟩ := tm_atI I6 t_a8 (k := 0) rfl
      refine tr_getK q12 d_TrustDesk_scheme_69 f_TrustDesk_308_11 ?_
      exact mv_iret d_TrustDesk_scheme_72 rfl (by first | rfl | decide) ⟨_, I6, _, rfl⟩
    · refine mv_tableIn (tgt := 73) (off := 60) d_TrustDesk_scheme_13 (by omega) (by omega) (by rw [b11]; rfl) (by decide) ?_
      refine mv_aload_n d_TrustDesk_scheme_73 rfl rfl ?_
      obtain ⟨v15, q14⟩ := tm_atI I6 t_a8 (k := 1) rfl
      refine tr_getK q14 d_TrustDesk_scheme_74 f_TrustDesk_302_11 ?_
      exact mv_iret d_TrustDesk_scheme_77 rfl (by first | rfl | decide) ⟨_, I6, _, rfl⟩
    · refine mv_tableIn (tgt := 78) (off := 65) d_TrustDesk_scheme_13 (by omega) (by omega) (by rw [b11]; rfl) (by decide) ?_
      refine mv_aload_n d_TrustDesk_scheme_78 rfl rfl ?_
      obtain ⟨v17, q16⟩ := tm_atI I6 t_a8 (k := 2) rfl
      refine tr_getK q16 d_TrustDesk_scheme_79 f_TrustDesk_311_11 ?_
      exact mv_iret d_TrustDesk_scheme_82 rfl (by first | rfl | decide) ⟨_, I6, _, rfl⟩
    · refine mv_tableIn (tgt := 83) (off := 70) d_TrustDesk_scheme_13 (by omega) (by omega) (by rw [b11]; rfl) (by decide) ?_
      refine mv_aload_n d_TrustDesk_scheme_83 rfl rfl ?_
      obtain ⟨v19, q18⟩ := tm_atI I6 t_a8 (k := 3) rfl
      refine tr_getK q18 d_TrustDesk_scheme_84 f_TrustDesk_433_11 ?_
      exact mv_iret d_TrustDesk_scheme_87 rfl (by first | rfl | decide) ⟨_, I6, _, rfl⟩
    · refine mv_tableIn (tgt := 88) (off := 75) d_TrustDesk_scheme_13 (by omega) (by omega) (by rw [b11]; rfl) (by decide) ?_
      refine mv_aload_n d_TrustDesk_scheme_88 rfl rfl ?_
      obtain ⟨v21, q20⟩ := tm_atI I6 t_a8 (k := 4) rfl
      refine tr_getK q20 d_TrustDesk_scheme_89 f_TrustDesk_285_11 ?_
      exact mv_iret d_TrustDesk_scheme_92 rfl (by first | rfl | decide) ⟨_, I6, _, rfl⟩
    · refine mv_tableIn (tgt := 93) (off := 80) d_TrustDesk_scheme_13 (by omega) (by omega) (by rw [b11]; rfl) (by decide) ?_
      refine mv_aload_n d_TrustDesk_scheme_93 rfl rfl ?_
      obtain ⟨v23, q22⟩ := tm_atI I6 t_a8 (k := 5) rfl
      refine tr_getK q22 d_TrustDesk_scheme_94 f_TrustDesk_284_11 ?_
      exact mv_iret d_TrustDesk_scheme_97 rfl (by first | rfl | decide) ⟨_, I6, _, rfl⟩
    · refine mv_tableIn (tgt := 98) (off := 85) d_TrustDesk_scheme_13 (by omega) (by omega) (by rw [b11]; rfl) (by decide) ?_
      refine mv_aload_n d_TrustDesk_scheme_98 rfl rfl ?_
      obtain ⟨v25, q24⟩ := tm_atI I6 t_a8 (k := 6) rfl
      refine tr_getK q24 d_TrustDesk_scheme_99 f_TrustDesk_318_11 ?_
      exact mv_iret d_TrustDesk_scheme_102 rfl (by first | rfl | decide) ⟨_, I6, _, rfl⟩
    · refine mv_tableIn (tgt := 103) (off := 90) d_TrustDesk_scheme_13 (by omega) (by omega) (by rw [b11]; rfl) (by decide) ?_
      refine mv_aload_n d_TrustDesk_scheme_103 rfl rfl ?_
      obtain ⟨v27, q26⟩ := tm_atI I6 t_a8 (k := 7) rfl
      refine tr_getK q26 d_TrustDesk_scheme_104 f_TrustDesk_345_11 ?_
      exact mv_iret d_TrustDesk_scheme_107 rfl (by first | rfl | decide) ⟨_, I6, _, rfl⟩
    · refine mv_tableIn (tgt := 108) (off := 95) d_TrustDesk_scheme_13 (by omega) (by omega) (by rw [b11]; rfl) (by decide) ?_
      refine mv_aload_n d_TrustDesk_scheme_108 rfl rfl ?_
      obtain ⟨v29, q28⟩ := tm_atI I6 t_a8 (k := 8) rfl
      refine tr_getK q28 d_TrustDesk_scheme_109 f_TrustDesk_436_11 ?_
      exact mv_iret d_TrustDesk_scheme_112 rfl (by first | rfl | decide) ⟨_, I6, _, rfl⟩
    · refine mv_tableIn (tgt := 113) (off := 100) d_TrustDesk_scheme_13 (by omega) (by omega) (by rw [b11]; rfl) (by decide) ?_
      refine mv_aload_n d_TrustDesk_scheme_113 rfl rfl ?_
      obtain ⟨v31, q30⟩ := tm_atI I6 t_a8 (k := 9) rfl
      refine tr_getK q30 d_TrustDesk_scheme_114 f_TrustDesk_439_11 ?_
      exact mv_iret d_TrustDesk_scheme_117 rfl (by first | rfl | decide) ⟨_, I6, _, rfl⟩
abbrev kY_TrustDesk_sell : mj_Y := (⟨"TrustDesk", "sell", "(LTrustDesk$Fund;I)V"⟩, prog_1_method_35_code, 5, (Option.none : Option Jvm.ClassFile.FieldType))
theorem d_TrustDesk_sell_0 : decode kY_TrustDesk_sell.2.1 0 = .ok (.aload_n 0, 1) := by decide +kernel
theorem d_TrustDesk_sell_1 : decode kY_TrustDesk_sell.2.1 1 = .ok (.getfield 10, 3) := by decide +kernel
theorem d_TrustDesk_sell_4 : decode kY_TrustDesk_sell.2.1 4 = .ok (.bipush 6, 2) := by decide +kernel
theorem d_TrustDesk_sell_6 : decode kY_TrustDesk_sell.2.1 6 = .ok (.aload_n 0, 1) := by decide +kernel
theorem d_TrustDesk_sell_7 : decode kY_TrustDesk_sell.2.1 7 = .ok (.getfield 73, 3) := by decide +kernel
theorem d_TrustDesk_sell_10 : decode kY_TrustDesk_sell.2.1 10 = .ok (.invokestatic 366, 3) := by decide +kernel
theorem d_TrustDesk_sell_13 : decode kY_TrustDesk_sell.2.1 13 = .ok (.aload_n 0, 1) := by decide +kernel
theorem d_TrustDesk_sell_14 : decode kY_TrustDesk_sell.2.1 14 = .ok (.getfield 73, 3) := by decide +kernel
theorem d_TrustDesk_sell_17 : decode kY_TrustDesk_sell.2.1 17 = .ok (.invokevirtual 84, 3) := by decide +kernel
theorem d_TrustDesk_sell_20 : decode kY_TrustDesk_sell.2.1 20 = .ok (.i2l, 1) := by decide +kernel
theorem d_TrustDesk_sell_21 : decode kY_TrustDesk_sell.2.1 21 = .ok (.lstore_n 3, 1) := by decide +kernel
theorem d_TrustDesk_sell_22 : decode kY_TrustDesk_sell.2.1 22 = .ok (.aload_n 1, 1) := by decide +kernel
theorem d_TrustDesk_sell_23 : decode kY_TrustDesk_sell.2.1 23 = .ok (.dup, 1) := by decide +kernel
theorem d_TrustDesk_sell_24 : decode kY_TrustDesk_sell.2.1 24 = .ok (.getfield 356, 3) := by decide +kernel
theorem d_TrustDesk_sell_27 : decode kY_TrustDesk_sell.2.1 27 = .ok (.iload_n 2, 1) := by decide +kernel
theorem d_TrustDesk_sell_28 : decode kY_TrustDesk_sell.2.1 28 = .ok (.isub, 1) := by decide +kernel
theorem d_TrustDesk_sell_29 : decode kY_TrustDesk_sell.2.1 29 = .ok (.putfield 356, 3) := by decide +kernel
theorem p_TrustDesk_356_6 : mj_fp "TrustDesk" 356 6 1 (kt_Fund 1) false := ⟨kR_Fund, kF_Fund, 15, "TrustDesk$Fund", kt_Fund, rfl, kg_6, by decide, (mj_in1 (List.mem_of_getElem? (i := 667) (by decide +kernel)) rfl), Or.inl rfl, kto_Fund, kn_Fund, rfl, rfl, fun h => by cases h⟩
theorem d_TrustDesk_sell_32 : decode kY_TrustDesk_sell.2.1 32 = .ok (.aload_n 1, 1) := by decide +kernel
theorem d_TrustDesk_sell_33 : decode kY_TrustDesk_sell.2.1 33 = .ok (.iload_n 2, 1) := by decide +kernel
theorem d_TrustDesk_sell_34 : decode kY_TrustDesk_sell.2.1 34 = .ok (.i2l, 1) := by decide +kernel
theorem d_TrustDesk_sell_35 : decode kY_TrustDesk_sell.2.1 35 = .ok (.lload_n 3, 1) := by decide +kernel
theorem d_TrustDesk_sell_36 : decode kY_TrustDesk_sell.2.1 36 = .ok (.lmul, 1) := by decide +kernel
theorem d_TrustDesk_sell_37 : decode kY_TrustDesk_sell.2.1 37 = .ok (.aload_n 0, 1) := by decide +kernel
theorem d_TrustDesk_sell_38 : decode kY_TrustDesk_sell.2.1 38 = .ok (.aload_n 0, 1) := by decide +kernel
theorem d_TrustDesk_sell_39 : decode kY_TrustDesk_sell.2.1 39 = .ok (.getfield 73, 3) := by decide +kernel
theorem d_TrustDesk_sell_42 : decode kY_TrustDesk_sell.2.1 42 = .ok (.invokevirtual 114, 3) := by decide +kernel
theorem d_TrustDesk_sell_45 : decode kY_TrustDesk_sell.2.1 45 = .ok (.iconst 5, 1) := by decide +kernel
theorem d_TrustDesk_sell_46 : decode kY_TrustDesk_sell.2.1 46 = .ok (.invokevirtual 118, 3) := by decide +kernel
theorem d_TrustDesk_sell_49 : decode kY_TrustDesk_sell.2.1 49 = .ok (.i2l, 1) := by decide +kernel
theorem d_TrustDesk_sell_50 : decode kY_TrustDesk_sell.2.1 50 = .ok (.lmul, 1) := by decide +kernel
theorem d_TrustDesk_sell_51 : decode kY_TrustDesk_sell.2.1 51 = .ok (.invokevirtual 176, 3) := by decide +kernel
abbrev kY_Fund_receive : mj_Y := (⟨"TrustDesk$Fund", "receive", "(J)V"⟩, prog_7_method_4_code, 3, (Option.none : Option Jvm.ClassFile.FieldType))
theorem d_Fund_receive_0 : decode kY_Fund_receive.2.1 0 = .ok (.aload_n 0, 1) := by decide +kernel
theorem d_Fund_receive_1 : decode kY_Fund_receive.2.1 1 = .ok (.aload_n 0, 1) := by decide +kernel
theorem d_Fund_receive_2 : decode kY_Fund_receive.2.1 2 = .ok (.getfield 49, 3) := by decide +kernel
theorem f_Fund_49_6 : mj_fl "TrustDesk$Fund" 49 6 3 := ⟨kR_Fund, kF_Fund, 15, "TrustDesk$Fund", rfl, kg_6, by decide, (mj_in1 (List.mem_of_getElem? (i := 671) (by decide +kernel)) rfl), Or.inl rfl⟩
theorem d_Fund_receive_5 : decode kY_Fund_receive.2.1 5 = .ok (.lload_n 1, 1) := by decide +kernel
theorem d_Fund_receive_6 : decode kY_Fund_receive.2.1 6 = .ok (.ladd, 1) := by decide +kernel
theorem d_Fund_receive_7 : decode kY_Fund_receive.2.1 7 = .ok (.ldc2_w 53, 3) := by decide +kernel
theorem k_Fund_53 : Cond.constantLong "TrustDesk$Fund" 53 1000000000000000 ∈ mj_T := (mj_in1 (List.mem_of_getElem? (i := 869) (by decide +kernel)) rfl)
theorem d_Fund_receive_10 : decode kY_Fund_receive.2.1 10 = .ok (.invokestatic 55, 3) := by decide +kernel
theorem d_Fund_receive_13 : decode kY_Fund_receive.2.1 13 = .ok (.putfield 49, 3) := by decide +kernel
theorem p_Fund_49_6 : mj_fp "TrustDesk$Fund" 49 6 3 (kt_Fund 3) false := ⟨kR_Fund, kF_Fund, 15, "TrustDesk$Fund", kt_Fund, rfl, kg_6, by decide, (mj_in1 (List.mem_of_getElem? (i := 671) (by decide +kernel)) rfl), Or.inl rfl, kto_Fund, kn_Fund, rfl, rfl, fun h => by cases h⟩
theorem d_Fund_receive_16 : decode kY_Fund_receive.2.1 16 = .ok (.return_, 1) := by decide +kernel
def w_Fund_receive : List Nat := [603]
theorem tc_Fund_receive {g : mj_G} {l : Launch} {d : Nat} {T0 : tm_H} {M0 : mj_M} {n0 x9 : Nat} {o0 : Nat} {x1 : Int64} (h_o0 : T0 o0 = some (0, 6, 0)) (I0 : tm_I tm_FT (tm_in w_Fund_receive) x9 T0 M0 n0 T0 M0 n0) : mj_Met g l kY_Fund_receive (d + 1) [.ref o0, .long x1] M0 n0 0 0 (tm_Q tm_FT (tm_in w_Fund_receive) x9 T0 M0 n0 (fun r _ _ => r = none)) := by
  refine mj_enter (by decide) (Nat.le_of_ble_eq_true rfl) ?_
  refine mv_aload_n d_Fund_receive_0 rfl rfl ?_
  refine mv_aload_n d_Fund_receive_1 rfl rfl ?_
  obtain ⟨v2, q1⟩ := tm_atL I0 h_o0 (k := 3) rfl
  refine tr_getK q1 d_Fund_receive_2 f_Fund_49_6 ?_
  refine mv_lload_n d_Fund_receive_5 rfl rfl ?_
  refine mv_ladd d_Fund_receive_6 ?_
  refine mv_ldc2 d_Fund_receive_7 k_Fund_53 ?_
  refine mv_mmin_long (v := (if 1000000000000000 < (v2 + x1) then 1000000000000000 else (v2 + x1))) d_Fund_receive_10 (mj_in1 (List.mem_of_getElem? (i := 870) (by decide +kernel)) rfl) (Nat.le_of_ble_eq_true rfl) rfl ?_
  refine tr_putK tm_okF I0 h_o0 (k := 3) rfl ⟨_, rfl⟩ (Or.inl (by decide)) d_Fund_receive_13 p_Fund_49_6 rfl rfl (fun M3 I4 q5 K6 => ?_)
  exact mv_vret d_Fund_receive_16 rfl ⟨_, I4, rfl⟩
theorem lV_TrustDesk_176 : mj_lV "TrustDesk" 176 kY_Fund_receive 1 := ⟨⟨(mj_in1 (List.mem_of_getElem? (i := 865) (by decide +kernel)) rfl), (mj_in1 (List.mem_of_getElem? (i := 21) (by decide +kernel)) rfl), (mj_in1 (List.mem_of_getElem? (i := 868) (by decide +kernel)) rfl), by decide, rfl, by decide⟩, (mj_in1 (List.mem_of_getElem? (i := 866) (by decide +kernel)) rfl), (mj_in1 (List.mem_of_getElem? (i := 867) (by decide +kernel)) rfl)⟩
theorem d_TrustDesk_sell_54 : decode kY_TrustDesk_sell.2.1 54 = .ok (.return_, 1) := by decide +kernel
def w_TrustDesk_sell : List Nat := [601, 603]
theorem tc_TrustDesk_sell {g : mj_G} {l : Launch} {d : Nat} {T0 : tm_H} {M0 : mj_M} {n0 x9 : Nat} {o0 : Nat} {o1 : Nat} {x2 : Int32} (h_o0 : T0 o0 = some (0, 12, 0)) (h_o1 : T0 o1 = some (0, 6, 0)) (I0 : tm_I tm_FT (tm_in w_TrustDesk_sell) x9 T0 M0 n0 T0 M0 n0) : mj_Met g l kY_TrustDesk_sell (d + 4) [.ref o0, .ref o1, .int x2] M0 n0 0 0 (tm_Q tm_FT (tm_in w_TrustDesk_sell) x9 T0 M0 n0 (fun r _ _ => r = none)) := by
  refine mj_enter (by decide) (Nat.le_of_ble_eq_true rfl) ?_
  refine mv_aload_n d_TrustDesk_sell_0 rfl rfl ?_
  obtain ⟨a2, q1, t_a2⟩ := tm_atR I0 h_o0 (k := 0) rfl
  refine tr_getK q1 d_TrustDesk_sell_1 f_TrustDesk_10_12 ?_
  refine mv_bipush (v := 6) d_TrustDesk_sell_4 (by decide) ?_
  refine mv_aload_n d_TrustDesk_sell_6 rfl rfl ?_
  obtain ⟨v4, q3⟩ := tm_atI I0 h_o0 (k := 12) rfl
  refine tr_getK q3 d_TrustDesk_sell_7 f_TrustDesk_73_12 ?_
  refine mv_callS (kc' := 0) (ks' := 0) (As := [.int v4]) (st9 := [.int v4, .int 6, .ref a2]) d_TrustDesk_sell_10 lS_TrustDesk_366 (tc_TrustDesk_yearOf (d := (d + 3)) (x9 := x9) (x1 := v4)  I0.start) rfl (Nat.le_of_ble_eq_true rfl) (Nat.le_of_ble_eq_true rfl) (Nat.le_of_ble_eq_true rfl) (hst := rfl) (fun b5r M6 n7 b5 => ?_)
  obtain ⟨T8, J9, v11, rfl⟩ := b5
  have I10 := I0.call J9 (tm_sub (by decide)) (Or.inl rfl)
  have t12 := J9.up h_o0
  have t13 := J9.up h_o1
  have t14 := J9.up t_a2
  have q15 := J9.keep h_o0 (by decide) q1
  have q16 := J9.keep h_o0 (by decide) q3
  refine mv_aload_n d_TrustDesk_sell_13 rfl rfl ?_
  refine tr_getK (k := 12) q16 d_TrustDesk_sell_14 f_TrustDesk_73_12 ?_
  obtain ⟨_, b23, -⟩ := I10.1 _ _ t14
  refine mv_callV (kc' := 0) (ks' := 0) (As := [.int 6, .int v11, .int v4]) (st9 := [.int v4, .int v11, .int 6, .ref a2]) d_TrustDesk_sell_17 lV_TrustDesk_84 b23 rfl (tc_Facts_asKnown (d := (d + 3)) (x9 := x9) (o0 := a2) (x1 := 6) (x2 := v11) (x3 := v4) t14 I10.start) rfl (Nat.le_of_ble_eq_true rfl) (Nat.le_of_ble_eq_true rfl) (Nat.le_of_ble_eq_true rfl) (hst := rfl) (fun b17r M18 n19 b17 => ?_)
  obtain ⟨T20, J21, v24, rfl⟩ := b17
  have I22 := I10.call J21 (tm_sub (by decide)) (Or.inl rfl)
  have t25 := J21.up t12
  have t26 := J21.up t13
  have q27 := J21.keep t12 (by decide) q15
  have t28 := J21.up t14
  have q29 := J21.keep t12 (by decide) q16
  refine mv_i2l (v := v24.toInt64) d_TrustDesk_sell_20 rfl ?_
  refine mv_lstore_n (lv' := [(3, .long v24.toInt64), (0, .ref o0), (1, .ref o1), (2, .int x2)]) d_TrustDesk_sell_21 rfl (by decide) rfl ?_
  refine mv_aload_n d_TrustDesk_sell_22 rfl rfl ?_
  refine mv_dup d_TrustDesk_sell_23 rfl ?_
  obtain ⟨v31, q30⟩ := tm_atI I22 t26 (k := 1) rfl
  refine tr_getK q30 d_TrustDesk_sell_24 f_TrustDesk_356_6 ?_
  refine mv_iload_n d_TrustDesk_sell_27 rfl rfl ?_
  refine mv_isub d_TrustDesk_sell_28 ?_
  refine tr_putK tm_okF I22 t26 (k := 1) rfl ⟨_, rfl⟩ (Or.inl (by decide)) d_TrustDesk_sell_29 p_TrustDesk_356_6 rfl rfl (fun M32 I33 q34 K35 => ?_)
  refine mv_aload_n d_TrustDesk_sell_32 rfl rfl ?_
  refine mv_iload_n d_TrustDesk_sell_33 rfl rfl ?_
  refine mv_i2l (v := x2.toInt64) d_TrustDesk_sell_34 rfl ?_
  refine mv_lload_n d_TrustDesk_sell_35 rfl rfl ?_
  refine mv_lmul d_TrustDesk_sell_36 ?_
  refine mv_aload_n d_TrustDesk_sell_37 rfl rfl ?_
  refine mv_aload_n d_TrustDesk_sell_38 rfl rfl ?_
  refine tr_getK (k := 12) (K35 _ 12 12 _ rfl q29) d_TrustDesk_sell_39 f_TrustDesk_73_12 ?_
  obtain ⟨_, b42, -⟩ := I33.1 _ _ t25
  refine mv_callV (kc' := 0) (ks' := 0) (As := [.int v4]) (st9 := [.int v4, .ref o0, .long (x2.toInt64 * v24.toInt64), .ref o1]) d_TrustDesk_sell_42 lV_TrustDesk_114 b42 rfl (tc_TrustDesk_inForce (d := d) (x9 := x9) (o0 := o0) (x1 := v4) t25 I33.start) rfl (Nat.le_of_ble_eq_true rfl) (Nat.le_of_ble_eq_true rfl) (Nat.le_of_ble_eq_true rfl) (hst := rfl) (fun b36r M37 n38 b36 => ?_)
  obtain ⟨T39, J40, a43, rfl, t_a43⟩ := b36
  have I41 := I33.call J40 (tm_sub (by decide)) (Or.inl rfl)
  have t44 := J40.up t25
  have t45 := J40.up t26
  have q46 := J40.keep t25 (by decide) (K35 _ 12 0 _ rfl q27)
  have t47 := J40.up t28
  have q48 := J40.keep t25 (by decide) (K35 _ 12 12 _ rfl q29)
  have q49 := J40.keep t26 (by decide) q34
  refine mv_iconst (v := 5) d_TrustDesk_sell_45 (by decide) ?_
  obtain ⟨_, b56, -⟩ := I41.1 _ _ t_a43
  refine mv_callV (kc' := 0) (ks' := 0) (As := [.int 5]) (st9 := [.int 5, .ref a43, .long (x2.toInt64 * v24.toInt64), .ref o1]) d_TrustDesk_sell_46 lV_TrustDesk_118 b56 rfl (tc_Act_rule (d := (d + 3)) (x9 := x9) (o0 := a43) (x1 := 5) t_a43 I41.start) rfl (Nat.le_of_ble_eq_true rfl) (Nat.le_of_ble_eq_true rfl) (Nat.le_of_ble_eq_true rfl) (hst := rfl) (fun b50r M51 n52 b50 => ?_)
  obtain ⟨T53, J54, v57, rfl⟩ := b50
  have I55 := I41.call J54 (tm_sub (by decide)) (Or.inl rfl)
  have t58 := J54.up t44
  have t59 := J54.up t45
  have q60 := J54.keep t44 (by decide) q46
  have t61 := J54.up t47
  have q62 := J54.keep t44 (by decide) q48
  have q63 := J54.keep t45 (by decide) q49
  refine mv_i2l (v := v57.toInt64) d_TrustDesk_sell_49 rfl ?_
  refine mv_lmul d_TrustDesk_sell_50 ?_
  obtain ⟨_, b70, -⟩ := I55.1 _ _ t59
  refine mv_callV (kc' := 0) (ks' := 0) (As := [.long ((x2.toInt64 * v24.toInt64) * v57.toInt64)]) (st9 := [.long ((x2.toInt64 * v24.toInt64) * v57.toInt64), .ref o1]) d_TrustDesk_sell_51 lV_TrustDesk_176 b70 rfl (tc_Fund_receive (d := (d + 2)) (x9 := x9) (o0 := o1) (x1 := ((x2.toInt64 * v24.toInt64) * v57.toInt64)) t59 I55.start) rfl (Nat.le_of_ble_eq_true rfl) (Nat.le_of_ble_eq_true rfl) (Nat.le_of_ble_eq_true rfl) (hst := rfl) (fun b64r M65 n66 b64 => ?_)
  obtain ⟨T67, J68, rfl⟩ := b64
  have I69 := I55.call J68 (tm_sub (by decide)) (Or.inl rfl)
  have t71 := J68.up t58
  have t72 := J68.up t59
  have q73 := J68.keep t58 (by decide) q60
  have t74 := J68.up t61
  have q75 := J68.keep t58 (by decide) q62
  have q76 := J68.keep t59 (by decide) q63
  exact mv_vret d_TrustDesk_sell_54 rfl ⟨_, I69, rfl⟩
abbrev kY_TrustDesk_strike : mj_Y := (⟨"TrustDesk", "strike", "(LTrustDesk$End;)V"⟩, prog_1_method_36_code, 2, (Option.none : Option Jvm.ClassFile.FieldType))
theorem d_TrustDesk_strike_0 : decode kY_TrustDesk_strike.2.1 0 = .ok (.aload_n 1, 1) := by decide +kernel
theorem d_TrustDesk_strike_1 : decode kY_TrustDesk_strike.2.1 1 = .ok (.ifnull 8, 3) := by decide +kernel
theorem d_TrustDesk_strike_4 : decode kY_TrustDesk_strike.2.1 4 = .ok (.aload_n 1, 1) := by decide +kernel
theorem d_TrustDesk_strike_5 : decode kY_TrustDesk_strike.2.1 5 = .ok (.iconst 2, 1) := by decide +kernel
theorem d_TrustDesk_strike_6 : decode kY_TrustDesk_strike.2.1 6 = .ok (.putfield 193, 3) := by decide +kernel
theorem p_TrustDesk_193_3 : mj_fp "TrustDesk" 193 3 1 (kt_End 1) false := ⟨kR_End, kF_End, 4, "TrustDesk$End", kt_End, rfl, kg_3, by decide, (mj_in1 (List.mem_of_getElem? (i := 790) (by decide +kernel)) rfl), Or.inl rfl, kto_End, kn_End, rfl, rfl, fun h => by cases h⟩
theorem d_TrustDesk_strike_9 : decode kY_TrustDesk_strike.2.1 9 = .ok (.return_, 1) := by decide +kernel
def w_TrustDesk_strike : List Nat := [301]
theorem tc_TrustDesk_strike {g : mj_G} {l : Launch} {d : Nat} {T0 : tm_H} {M0 : mj_M} {n0 x9 : Nat} {o0 : Nat} {o1 : Nat} (h_o0 : T0 o0 = some (0, 12, 0)) (h_o1 : T0 o1 = some (0, 3, 0)) (I0 : tm_I tm_FT (tm_in w_TrustDesk_strike) x9 T0 M0 n0 T0 M0 n0) : mj_Met g l kY_TrustDesk_strike d [.ref o0, .ref o1] M0 n0 0 0 (tm_Q tm_FT (tm_in w_TrustDesk_strike) x9 T0 M0 n0 (fun r _ _ => r = none)) := by
  refine mj_enter (by decide) (Nat.le_of_ble_eq_true rfl) ?_
  refine mv_aload_n d_TrustDesk_strike_0 rfl rfl ?_
  refine mv_ifnull d_TrustDesk_strike_1 ?_
  refine mv_aload_n d_TrustDesk_strike_4 rfl rfl ?_
  refine mv_iconst (v := 2) d_TrustDesk_strike_5 (by decide) ?_
  refine tr_putK tm_okF I0 h_o1 (k := 1) rfl ⟨_, rfl⟩ (Or.inl (by decide)) d_TrustDesk_strike_6 p_TrustDesk_193_3 rfl rfl (fun M1 I2 q3 K4 => ?_)
  exact mv_vret d_TrustDesk_strike_9 rfl ⟨_, I2, rfl⟩
abbrev kY_TrustDesk_trustee : mj_Y := (⟨"TrustDesk", "trustee", "(II)Z"⟩, prog_1_method_17_code, 4, (Option.some Jvm.ClassFile.FieldType.boolean))
theorem d_TrustDesk_trustee_0 : decode kY_TrustDesk_trustee.2.1 0 = .ok (.aload_n 0, 1) := by decide +kernel
theorem d_TrustDesk_trustee_1 : decode kY_TrustDesk_trustee.2.1 1 = .ok (.iload_n 1, 1) := by decide +kernel
theorem d_TrustDesk_trustee_2 : decode kY_TrustDesk_trustee.2.1 2 = .ok (.invokevirtual 257, 3) := by decide +kernel
theorem d_TrustDesk_trustee_5 : decode kY_TrustDesk_trustee.2.1 5 = .ok (.astore_n 3, 1) := by decide +kernel
theorem d_TrustDesk_trustee_6 : decode kY_TrustDesk_trustee.2.1 6 = .ok (.aload_n 3, 1) := by decide +kernel
theorem d_TrustDesk_trustee_7 : decode kY_TrustDesk_trustee.2.1 7 = .ok (.ifnull 17, 3) := by decide +kernel
theorem d_TrustDesk_trustee_24 : decode kY_TrustDesk_trustee.2.1 24 = .ok (.iconst 0, 1) := by decide +kernel
theorem d_TrustDesk_trustee_25 : decode kY_TrustDesk_trustee.2.1 25 = .ok (.ireturn, 1) := by decide +kernel
theorem d_TrustDesk_trustee_10 : decode kY_TrustDesk_trustee.2.1 10 = .ok (.iload_n 2, 1) := by decide +kernel
theorem d_TrustDesk_trustee_11 : decode kY_TrustDesk_trustee.2.1 11 = .ok (.invokestatic 261, 3) := by decide +kernel
theorem d_TrustDesk_trustee_14 : decode kY_TrustDesk_trustee.2.1 14 = .ok (.ifCond .eq 10, 3) := by decide +kernel
theorem d_TrustDesk_trustee_17 : decode kY_TrustDesk_trustee.2.1 17 = .ok (.aload_n 3, 1) := by decide +kernel
theorem d_TrustDesk_trustee_18 : decode kY_TrustDesk_trustee.2.1 18 = .ok (.invokevirtual 162, 3) := by decide +kernel
theorem d_TrustDesk_trustee_21 : decode kY_TrustDesk_trustee.2.1 21 = .ok (.ifCond .eq 5, 3) := by decide +kernel
theorem d_TrustDesk_trustee_26 : decode kY_TrustDesk_trustee.2.1 26 = .ok (.aload_n 3, 1) := by decide +kernel
theorem d_TrustDesk_trustee_27 : decode kY_TrustDesk_trustee.2.1 27 = .ok (.iload_n 2, 1) := by decide +kernel
theorem d_TrustDesk_trustee_28 : decode kY_TrustDesk_trustee.2.1 28 = .ok (.invokevirtual 264, 3) := by decide +kernel
abbrev kY_Fund_takeTrustee : mj_Y := (⟨"TrustDesk$Fund", "takeTrustee", "(I)Z"⟩, prog_7_method_12_code, 2, (Option.some Jvm.ClassFile.FieldType.boolean))
theorem d_Fund_takeTrustee_0 : decode kY_Fund_takeTrustee.2.1 0 = .ok (.iload_n 1, 1) := by decide +kernel
theorem d_Fund_takeTrustee_1 : decode kY_Fund_takeTrustee.2.1 1 = .ok (.ifCond .lt 29, 3) := by decide +kernel
theorem d_Fund_takeTrustee_30 : decode kY_Fund_takeTrustee.2.1 30 = .ok (.iconst 0, 1) := by decide +kernel
theorem d_Fund_takeTrustee_31 : decode kY_Fund_takeTrustee.2.1 31 = .ok (.ireturn, 1) := by decide +kernel
theorem d_Fund_takeTrustee_4 : decode kY_Fund_takeTrustee.2.1 4 = .ok (.iload_n 1, 1) := by decide +kernel
theorem d_Fund_takeTrustee_5 : decode kY_Fund_takeTrustee.2.1 5 = .ok (.bipush 100, 2) := by decide +kernel
theorem d_Fund_takeTrustee_7 : decode kY_Fund_takeTrustee.2.1 7 = .ok (.if_icmp .ge 23, 3) := by decide +kernel
theorem d_Fund_takeTrustee_10 : decode kY_Fund_takeTrustee.2.1 10 = .ok (.aload_n 0, 1) := by decide +kernel
theorem d_Fund_takeTrustee_11 : decode kY_Fund_takeTrustee.2.1 11 = .ok (.getfield 32, 3) := by decide +kernel
theorem d_Fund_takeTrustee_14 : decode kY_Fund_takeTrustee.2.1 14 = .ok (.iload_n 1, 1) := by decide +kernel
theorem d_Fund_takeTrustee_15 : decode kY_Fund_takeTrustee.2.1 15 = .ok (.baload, 1) := by decide +kernel
theorem d_Fund_takeTrustee_16 : decode kY_Fund_takeTrustee.2.1 16 = .ok (.ifCond .ne 14, 3) := by decide +kernel
theorem d_Fund_takeTrustee_19 : decode kY_Fund_takeTrustee.2.1 19 = .ok (.aload_n 0, 1) := by decide +kernel
theorem d_Fund_takeTrustee_20 : decode kY_Fund_takeTrustee.2.1 20 = .ok (.getfield 87, 3) := by decide +kernel
theorem f_Fund_87_6 : mj_fl "TrustDesk$Fund" 87 6 7 := ⟨kR_Fund, kF_Fund, 15, "TrustDesk$Fund", rfl, kg_6, by decide, (mj_in1 (List.mem_of_getElem? (i := 682) (by decide +kernel)) rfl), Or.inl rfl⟩
theorem d_Fund_takeTrustee_23 : decode kY_Fund_takeTrustee.2.1 23 = .ok (.aload_n 0, 1) := by decide +kernel
theorem d_Fund_takeTrustee_24 : decode kY_Fund_takeTrustee.2.1 24 = .ok (.getfield 9, 3) := by decide +kernel
theorem f_Fund_9_6 : mj_fl "TrustDesk$Fund" 9 6 5 := ⟨kR_Fund, kF_Fund, 15, "TrustDesk$Fund", rfl, kg_6, by decide, (mj_in1 (List.mem_of_getElem? (i := 676) (by decide +kernel)) rfl), Or.inl rfl⟩
theorem d_Fund_takeTrustee_27 : decode kY_Fund_takeTrustee.2.1 27 = .ok (.if_icmp .lt 5, 3) := by decide +kernel
theorem d_Fund_takeTrustee_32 : decode kY_Fund_takeTrustee.2.1 32 = .ok (.aload_n 0, 1) := by decide +kernel
theorem d_Fund_takeTrustee_33 : decode kY_Fund_takeTrustee.2.1 33 = .ok (.getfield 32, 3) := by decide +kernel
theorem d_Fund_takeTrustee_36 : decode kY_Fund_takeTrustee.2.1 36 = .ok (.iload_n 1, 1) := by decide +kernel
theorem d_Fund_takeTrustee_37 : decode kY_Fund_takeTrustee.2.1 37 = .ok (.iconst 1, 1) := by decide +kernel
theorem d_Fund_takeTrustee_38 : decode kY_Fund_takeTrustee.2.1 38 = .ok (.bastore, 1) := by decide +kernel
theorem d_Fund_takeTrustee_39 : decode kY_Fund_takeTrustee.2.1 39 = .ok (.aload_n 0, 1) := by decide +kernel
theorem d_Fund_takeTrustee_40 : decode kY_Fund_takeTrustee.2.1 40 = .ok (.dup, 1) := by decide +kernel
theorem d_Fund_takeTrustee_41 : decode kY_Fund_takeTrustee.2.1 41 = .ok (.getfield 87, 3) := by decide +kernel
theorem d_Fund_takeTrustee_44 : decode kY_Fund_takeTrustee.2.1 44 = .ok (.iconst 1, 1) := by decide +kernel
theorem d_Fund_takeTrustee_45 : decode kY_Fund_takeTrustee.2.1 45 = .ok (.iadd, 1) := by decide +kernel
theorem d_Fund_takeTrustee_46 : decode kY_Fund_takeTrustee.2.1 46 = .ok (.putfield 87, 3) := by decide +kernel
theorem p_Fund_87_6 : mj_fp "TrustDesk$Fund" 87 6 7 (kt_Fund 7) false := ⟨kR_Fund, kF_Fund, 15, "TrustDesk$Fund", kt_Fund, rfl, kg_6, by decide, (mj_in1 (List.mem_of_getElem? (i := 682) (by decide +kernel)) rfl), Or.inl rfl, kto_Fund, kn_Fund, rfl, rfl, fun h => by cases h⟩
theorem d_Fund_takeTrustee_49 : decode kY_Fund_takeTrustee.2.1 49 = .ok (.iconst 1, 1) := by decide +kernel
theorem d_Fund_takeTrustee_50 : decode kY_Fund_takeTrustee.2.1 50 = .ok (.ireturn, 1) := by decide +kernel
def w_Fund_takeTrustee : List Nat := [607, 663]
theorem tc_Fund_takeTrustee {g : mj_G} {l : Launch} {d : Nat} {T0 : tm_H} {M0 : mj_M} {n0 x9 : Nat} {o0 : Nat} {x1 : Int32} (h_o0 : T0 o0 = some (0, 6, 0)) (I0 : tm_I tm_FT (tm_in w_Fund_takeTrustee) x9 T0 M0 n0 T0 M0 n0) : mj_Met g l kY_Fund_takeTrustee d [.ref o0, .int x1] M0 n0 0 0 (tm_Q tm_FT (tm_in w_Fund_takeTrustee) x9 T0 M0 n0 (fun r _ _ => ∃ v : Int32, r = some (.int v) ∧ 0 ≤ v.toInt ∧ v.toInt ≤ 1)) := by
  refine mj_enter (by decide) (Nat.le_of_ble_eq_true rfl) ?_
  refine mv_iload_n d_Fund_takeTrustee_0 rfl rfl ?_
  have := mz_hi x1
  refine mv_if_ltZ (tgt := 30) (a := x1.toInt) d_Fund_takeTrustee_1 (by decide) rfl (fun b1 => ?_) (fun b1 => ?_)
  · refine mv_iconst (v := 0) d_Fund_takeTrustee_30 (by decide) ?_
    exact mv_iret d_Fund_takeTrustee_31 rfl (by decide) ⟨_, I0, _, rfl, by decide, by decide⟩
  · refine mv_iload_n d_Fund_takeTrustee_4 rfl rfl ?_
    refine mv_bipush (v := 100) d_Fund_takeTrustee_5 (by decide) ?_
    have := mz_hi x1
    refine mv_icmp_geZ (tgt := 30) (a := x1.toInt) (b := 100) d_Fund_takeTrustee_7 (by decide) rfl (by decide) (fun b2 => ?_) (fun b2 => ?_)
    · refine mv_iconst (v := 0) d_Fund_takeTrustee_30 (by decide) ?_
      exact mv_iret d_Fund_takeTrustee_31 rfl (by decide) ⟨_, I0, _, rfl, by decide, by decide⟩
    · refine mv_aload_n d_Fund_takeTrustee_10 rfl rfl ?_
      obtain ⟨a4, q3, t_a4⟩ := tm_atR I0 h_o0 (k := 13) rfl
      refine tr_getK q3 d_Fund_takeTrustee_11 f_Fund_32_6 ?_
      refine mv_iload_n d_Fund_takeTrustee_14 rfl rfl ?_
      refine tr_zald I0 t_a4 (by decide) d_Fund_takeTrustee_15 (vp_in_iff.mpr (by omega)) (fun v5 => ?_)
      have := mz_hi v5
      refine mv_if_neZ (tgt := 30) (a := v5.toInt) d_Fund_takeTrustee_16 (by decide) rfl (fun b6 => ?_) (fun b6 => ?_)
      · refine mv_iconst (v := 0) d_Fund_takeTrustee_30 (by decide) ?_
        exact mv_iret d_Fund_takeTrustee_31 rfl (by decide) ⟨_, I0, _, rfl, by decide, by decide⟩
      · refine mv_aload_n d_Fund_takeTrustee_19 rfl rfl ?_
        obtain ⟨v8, q7⟩ := tm_atI I0 h_o0 (k := 7) rfl
        refine tr_getK q7 d_Fund_takeTrustee_20 f_Fund_87_6 ?_
        refine mv_aload_n d_Fund_takeTrustee_23 rfl rfl ?_
        obtain ⟨v10, q9⟩ := tm_atI I0 h_o0 (k := 5) rfl
        refine tr_getK q9 d_Fund_takeTrustee_24 f_Fund_9_6 ?_
        have := mz_hi v8
        have := mz_hi v10
        refine mv_icmp_ltZ (tgt := 32) (a := v8.toInt) (b := v10.toInt) d_Fund_takeTrustee_27 (by decide) rfl rfl (fun b11 => ?_) (fun b11 => ?_)
        · refine mv_aload_n d_Fund_takeTrustee_32 rfl rfl ?_
          refine tr_getK (k := 13) q3 d_Fund_takeTrustee_33 f_Fund_32_6 ?_
          refine mv_iload_n d_Fund_takeTrustee_36 rfl rfl ?_
          refine mv_iconst (v := 1) d_Fund_takeTrustee_37 (by decide) ?_
          refine tr_zastK tm_okF I0 t_a4 (by decide) (Or.inl (by decide)) d_Fund_takeTrustee_38 (vp_in_iff.mpr (by omega)) (fun M12 I13 K14 => ?_)
          refine mv_aload_n d_Fund_takeTrustee_39 rfl rfl ?_
          refine mv_dup d_Fund_takeTrustee_40 rfl ?_
          refine tr_getK (k := 7) (K14 _ 6 7 _ q7) d_Fund_takeTrustee_41 f_Fund_87_6 ?_
          refine mv_iconst (v := 1) d_Fund_takeTrustee_44 (by decide) ?_
          refine mv_iadd d_Fund_takeTrustee_45 ?_
          refine tr_putK tm_okF I13 h_o0 (k := 7) rfl ⟨_, rfl⟩ (Or.inl (by decide)) d_Fund_takeTrustee_46 p_Fund_87_6 rfl rfl (fun M15 I16 q17 K18 => ?_)
          refine mv_iconst (v := 1) d_Fund_takeTrustee_49 (by decide) ?_
          exact mv_iret d_Fund_takeTrustee_50 rfl (by decide) ⟨_, I16, _, rfl, by decide, by decide⟩
        · refine mv_iconst (v := 0) d_Fund_takeTrustee_30 (by decide) ?_
          exact mv_iret d_Fund_takeTrustee_31 rfl (by decide) ⟨_, I0, _, rfl, by decide, by decide⟩
theorem lV_TrustDesk_264 : mj_lV "TrustDesk" 264 kY_Fund_takeTrustee 1 := ⟨⟨(mj_in1 (List.mem_of_getElem? (i := 945) (by decide +kernel)) rfl), (mj_in1 (List.mem_of_getElem? (i := 21) (by decide +kernel)) rfl), (mj_in1 (List.mem_of_getElem? (i := 948) (by decide +kernel)) rfl), by decide, rfl, by decide⟩, (mj_in1 (List.mem_of_getElem? (i := 946) (by decide +kernel)) rfl), (mj_in1 (List.mem_of_getElem? (i := 947) (by decide +kernel)) rfl)⟩
theorem d_TrustDesk_trustee_31 : decode kY_TrustDesk_trustee.2.1 31 = .ok (.ireturn, 1) := by decide +kernel
def w_TrustDesk_trustee : List Nat := [607, 663]
theorem tc_TrustDesk_trustee {g : mj_G} {l : Launch} {d : Nat} {T0 : tm_H} {M0 : mj_M} {n0 x9 : Nat} {o0 : Nat} {x1 : Int32} {x2 : Int32} (h_o0 : T0 o0 = some (0, 12, 0)) (I0 : tm_I tm_FT (tm_in w_TrustDesk_trustee) x9 T0 M0 n0 T0 M0 n0) : mj_Met g l kY_TrustDesk_trustee (d + 4) [.ref o0, .int x1, .int x2] M0 n0 0 0 (tm_Q tm_FT (tm_in w_TrustDesk_trustee) x9 T0 M0 n0 (fun r _ _ => ∃ v : Int32, r = some (.int v) ∧ 0 ≤ v.toInt ∧ v.toInt ≤ 1)) := by
  refine mj_enter (by decide) (Nat.le_of_ble_eq_true rfl) ?_
  refine mv_aload_n d_TrustDesk_trustee_0 rfl rfl ?_
  refine mv_iload_n d_TrustDesk_trustee_1 rfl rfl ?_
  obtain ⟨_, b7, -⟩ := I0.1 _ _ h_o0
  refine mv_callV (kc' := 0) (ks' := 0) (As := [.int x1]) (st9 := [.int x1, .ref o0]) d_TrustDesk_trustee_2 lV_TrustDesk_257 b7 rfl (tc_TrustDesk_fundAt (d := d) (x9 := x9) (o0 := o0) (x1 := x1) h_o0 I0.start) rfl (Nat.le_of_ble_eq_true rfl) (Nat.le_of_ble_eq_true rfl) (Nat.le_of_ble_eq_true rfl) (hst := rfl) (fun b1r M2 n3 b1 => ?_)
  obtain ⟨T4, J5, b9⟩ := b1
  have I6 := I0.call J5 (tm_sub (by decide)) (Or.inl rfl)
  have t10 := J5.up h_o0
  rcases b9 with rfl | ⟨a8, rfl, t_a8⟩
  · refine mv_astore_nN (lv' := [(3, .null), (0, .ref o0), (1, .int x1), (2, .int x2)]) d_TrustDesk_trustee_5 rfl (by decide) rfl ?_
    refine mv_aload_nN d_TrustDesk_trustee_6 rfl rfl ?_
    refine mv_ifnullN (tgt := 24) d_TrustDesk_trustee_7 (by decide) ?_
    refine mv_iconst (v := 0) d_TrustDesk_trustee_24 (by decide) ?_
    exact mv_iret d_TrustDesk_trustee_25 rfl (by decide) ⟨_, I6, _, rfl, by decide, by decide⟩
  · refine mv_astore_n (lv' := [(3, .ref a8), (0, .ref o0), (1, .int x1), (2, .int x2)]) d_TrustDesk_trustee_5 rfl (by decide) rfl ?_
    refine mv_aload_n d_TrustDesk_trustee_6 rfl rfl ?_
    refine mv_ifnull d_TrustDesk_trustee_7 ?_
    refine mv_iload_n d_TrustDesk_trustee_10 rfl rfl ?_
    refine mv_callS (kc' := 0) (ks' := 0) (As := [.int x2]) (st9 := [.int x2]) d_TrustDesk_trustee_11 lS_TrustDesk_261 (tc_TrustDesk_isPerson (d := (d + 3)) (x9 := x9) (x1 := x2)  I6.start) rfl (Nat.le_of_ble_eq_true rfl) (Nat.le_of_ble_eq_true rfl) (Nat.le_of_ble_eq_true rfl) (hst := rfl) (fun b11r M12 n13 b11 => ?_)
    obtain ⟨T14, J15, v17, rfl, b18, b19⟩ := b11
    have I16 := I6.call J15 (tm_sub (by decide)) (Or.inl rfl)
    have t20 := J15.up t_a8
    have t21 := J15.up t10
    have := mz_hi v17
    refine mv_if_eqZ (tgt := 24) (a := v17.toInt) d_TrustDesk_trustee_14 (by decide) rfl (fun b22 => ?_) (fun b22 => ?_)
    · refine mv_iconst (v := 0) d_TrustDesk_trustee_24 (by decide) ?_
      exact mv_iret d_TrustDesk_trustee_25 rfl (by decide) ⟨_, I16, _, rfl, by decide, by decide⟩
    · refine mv_aload_n d_TrustDesk_trustee_17 rfl rfl ?_
      obtain ⟨_, b29, -⟩ := I16.1 _ _ t20
      refine mv_callV (kc' := 0) (ks' := 0) (As := []) (st9 := [.ref a8]) d_TrustDesk_trustee_18 lV_TrustDesk_162 b29 rfl (tc_Fund_isJoined (d := (d + 3)) (x9 := x9) (o0 := a8) t20 I16.start) rfl (Nat.le_of_ble_eq_true rfl) (Nat.le_of_ble_eq_true rfl) (Nat.le_of_ble_eq_true rfl) (hst := rfl) (fun b23r M24 n25 b23 => ?_)
      obtain ⟨T26, J27, v30, rfl, b31, b32⟩ := b23
      have I28 := I16.call J27 (tm_sub (by decide)) (Or.inl rfl)
      have t33 := J27.up t20
      have t34 := J27.up t21
      have := mz_hi v30
      refine mv_if_eqZ (tgt := 26) (a := v30.toInt) d_TrustDesk_trustee_21 (by decide) rfl (fun b35 => ?_) (fun b35 => ?_)
      · refine mv_aload_n d_TrustDesk_trustee_26 rfl rfl ?_
        refine mv_iload_n d_TrustDesk_trustee_27 rfl rfl ?_
        obtain ⟨_, b42, -⟩ := I28.1 _ _ t33
        refine mv_callV (kc' := 0) (ks' := 0) (As := [.int x2]) (st9 := [.int x2, .ref a8]) d_TrustDesk_trustee_28 lV_TrustDesk_264 b42 rfl (tc_Fund_takeTrustee (d := (d + 3)) (x9 := x9) (o0 := a8) (x1 := x2) t33 I28.start) rfl (Nat.le_of_ble_eq_true rfl) (Nat.le_of_ble_eq_true rfl) (Nat.le_of_ble_eq_true rfl) (hst := rfl) (fun b36r M37 n38 b36 => ?_)
        obtain ⟨T39, J40, v43, rfl, b44, b45⟩ := b36
        have I41 := I28.call J40 (tm_sub (by decide)) (Or.inl rfl)
        have t46 := J40.up t33
        have t47 := J40.up t34
        exact mv_iret d_TrustDesk_trustee_31 rfl (mz_nb (by omega) (by omega)) ⟨_, I41, _, rfl, by omega, by omega⟩
      · refine mv_iconst (v := 0) d_TrustDesk_trustee_24 (by decide) ?_
        exact mv_iret d_TrustDesk_trustee_25 rfl (by decide) ⟨_, I28, _, rfl, by decide, by decide⟩
abbrev kY_TrustDesk_vote : mj_Y := (⟨"TrustDesk", "vote", "(IIZ)Z"⟩, prog_1_method_22_code, 5, (Option.some Jvm.ClassFile.FieldType.boolean))
theorem d_TrustDesk_vote_0 : decode kY_TrustDesk_vote.2.1 0 = .ok (.aload_n 0, 1) := by decide +kernel
theorem d_TrustDesk_vote_1 : decode kY_TrustDesk_vote.2.1 1 = .ok (.iload_n 1, 1) := by decide +kernel
theorem d_TrustDesk_vote_2 : decode kY_TrustDesk_vote.2.1 2 = .ok (.invokevirtual 280, 3) := by decide +kernel
theorem d_TrustDesk_vote_5 : decode kY_TrustDesk_vote.2.1 5 = .ok (.astore 4, 2) := by decide +kernel
theorem d_TrustDesk_vote_7 : decode kY_TrustDesk_vote.2.1 7 = .ok (.aload 4, 2) := by decide +kernel
theorem d_TrustDesk_vote_9 : decode kY_TrustDesk_vote.2.1 9 = .ok (.ifnull 28, 3) := by decide +kernel
theorem d_TrustDesk_vote_37 : decode kY_TrustDesk_vote.2.1 37 = .ok (.iconst 0, 1) := by decide +kernel
theorem d_TrustDesk_vote_38 : decode kY_TrustDesk_vote.2.1 38 = .ok (.ireturn, 1) := by decide +kernel
theorem d_TrustDesk_vote_12 : decode kY_TrustDesk_vote.2.1 12 = .ok (.iload_n 2, 1) := by decide +kernel
theorem d_TrustDesk_vote_13 : decode kY_TrustDesk_vote.2.1 13 = .ok (.invokestatic 261, 3) := by decide +kernel
theorem d_TrustDesk_vote_16 : decode kY_TrustDesk_vote.2.1 16 = .ok (.ifCond .eq 21, 3) := by decide +kernel
theorem d_TrustDesk_vote_19 : decode kY_TrustDesk_vote.2.1 19 = .ok (.aload 4, 2) := by decide +kernel
theorem d_TrustDesk_vote_21 : decode kY_TrustDesk_vote.2.1 21 = .ok (.getfield 284, 3) := by decide +kernel
theorem d_TrustDesk_vote_24 : decode kY_TrustDesk_vote.2.1 24 = .ok (.ifCond .ne 13, 3) := by decide +kernel
theorem d_TrustDesk_vote_27 : decode kY_TrustDesk_vote.2.1 27 = .ok (.aload_n 0, 1) := by decide +kernel
theorem d_TrustDesk_vote_28 : decode kY_TrustDesk_vote.2.1 28 = .ok (.aload 4, 2) := by decide +kernel
theorem d_TrustDesk_vote_30 : decode kY_TrustDesk_vote.2.1 30 = .ok (.iload_n 2, 1) := by decide +kernel
theorem d_TrustDesk_vote_31 : decode kY_TrustDesk_vote.2.1 31 = .ok (.invokevirtual 294, 3) := by decide +kernel
theorem lV_TrustDesk_294 : mj_lV "TrustDesk" 294 kY_TrustDesk_maySpeak 2 := ⟨⟨(mj_in1 (List.mem_of_getElem? (i := 1037) (by decide +kernel)) rfl), (mj_in1 (List.mem_of_getElem? (i := 1) (by decide +kernel)) rfl), (mj_in1 (List.mem_of_getElem? (i := 1040) (by decide +kernel)) rfl), by decide, rfl, by decide⟩, (mj_in1 (List.mem_of_getElem? (i := 1039) (by decide +kernel)) rfl), (mj_in (List.mem_append_left _ (List.mem_of_getElem? (i := 53) (by decide +kernel))) rfl)⟩
theorem d_TrustDesk_vote_34 : decode kY_TrustDesk_vote.2.1 34 = .ok (.ifCond .ne 5, 3) := by decide +kernel
theorem d_TrustDesk_vote_39 : decode kY_TrustDesk_vote.2.1 39 = .ok (.aload 4, 2) := by decide +kernel
theorem d_TrustDesk_vote_41 : decode kY_TrustDesk_vote.2.1 41 = .ok (.iload_n 2, 1) := by decide +kernel
theorem d_TrustDesk_vote_42 : decode kY_TrustDesk_vote.2.1 42 = .ok (.iload_n 3, 1) := by decide +kernel
theorem d_TrustDesk_vote_43 : decode kY_TrustDesk_vote.2.1 43 = .ok (.invokevirtual 298, 3) := by decide +kernel
abbrev kY_Scheme_takeVote : mj_Y := (⟨"TrustDesk$Scheme", "takeVote", "(IZ)V"⟩, prog_12_method_4_code, 3, (Option.none : Option Jvm.ClassFile.FieldType))
theorem d_Scheme_takeVote_0 : decode kY_Scheme_takeVote.2.1 0 = .ok (.iload_n 1, 1) := by decide +kernel
theorem d_Scheme_takeVote_1 : decode kY_Scheme_takeVote.2.1 1 = .ok (.ifCond .lt 9, 3) := by decide +kernel
theorem d_Scheme_takeVote_10 : decode kY_Scheme_takeVote.2.1 10 = .ok (.return_, 1) := by decide +kernel
theorem d_Scheme_takeVote_4 : decode kY_Scheme_takeVote.2.1 4 = .ok (.iload_n 1, 1) := by decide +kernel
theorem d_Scheme_takeVote_5 : decode kY_Scheme_takeVote.2.1 5 = .ok (.bipush 100, 2) := by decide +kernel
theorem d_Scheme_takeVote_7 : decode kY_Scheme_takeVote.2.1 7 = .ok (.if_icmp .lt 4, 3) := by decide +kernel
theorem d_Scheme_takeVote_11 : decode kY_Scheme_takeVote.2.1 11 = .ok (.aload_n 0, 1) := by decide +kernel
theorem d_Scheme_takeVote_12 : decode kY_Scheme_takeVote.2.1 12 = .ok (.getfield 19, 3) := by decide +kernel
theorem d_Scheme_takeVote_15 : decode kY_Scheme_takeVote.2.1 15 = .ok (.iload_n 1, 1) := by decide +kernel
theorem d_Scheme_takeVote_16 : decode kY_Scheme_takeVote.2.1 16 = .ok (.baload, 1) := by decide +kernel
theorem d_Scheme_takeVote_17 : decode kY_Scheme_takeVote.2.1 17 = .ok (.iconst 1, 1) := by decide +kernel
theorem d_Scheme_takeVote_18 : decode kY_Scheme_takeVote.2.1 18 = .ok (.if_icmp .ne 16, 3) := by decide +kernel
theorem d_Scheme_takeVote_34 : decode kY_Scheme_takeVote.2.1 34 = .ok (.aload_n 0, 1) := by decide +kernel
theorem d_Scheme_takeVote_35 : decode kY_Scheme_takeVote.2.1 35 = .ok (.getfield 19, 3) := by decide +kernel
theorem d_Scheme_takeVote_38 : decode kY_Scheme_takeVote.2.1 38 = .ok (.iload_n 1, 1) := by decide +kernel
theorem d_Scheme_takeVote_39 : decode kY_Scheme_takeVote.2.1 39 = .ok (.baload, 1) := by decide +kernel
theorem d_Scheme_takeVote_40 : decode kY_Scheme_takeVote.2.1 40 = .ok (.iconst 2, 1) := by decide +kernel
theorem d_Scheme_takeVote_41 : decode kY_Scheme_takeVote.2.1 41 = .ok (.if_icmp .ne 13, 3) := by decide +kernel
theorem d_Scheme_takeVote_54 : decode kY_Scheme_takeVote.2.1 54 = .ok (.aload_n 0, 1) := by decide +kernel
theorem d_Scheme_takeVote_55 : decode kY_Scheme_takeVote.2.1 55 = .ok (.getfield 19, 3) := by decide +kernel
theorem d_Scheme_takeVote_58 : decode kY_Scheme_takeVote.2.1 58 = .ok (.iload_n 1, 1) := by decide +kernel
theorem d_Scheme_takeVote_59 : decode kY_Scheme_takeVote.2.1 59 = .ok (.iload_n 2, 1) := by decide +kernel
theorem d_Scheme_takeVote_60 : decode kY_Scheme_takeVote.2.1 60 = .ok (.ifCond .eq 7, 3) := by decide +kernel
theorem d_Scheme_takeVote_67 : decode kY_Scheme_takeVote.2.1 67 = .ok (.iconst 2, 1) := by decide +kernel
theorem d_Scheme_takeVote_68 : decode kY_Scheme_takeVote.2.1 68 = .ok (.i2b, 1) := by decide +kernel
theorem d_Scheme_takeVote_69 : decode kY_Scheme_takeVote.2.1 69 = .ok (.bastore, 1) := by decide +kernel
theorem d_Scheme_takeVote_70 : decode kY_Scheme_takeVote.2.1 70 = .ok (.iload_n 2, 1) := by decide +kernel
theorem d_Scheme_takeVote_71 : decode kY_Scheme_takeVote.2.1 71 = .ok (.ifCond .eq 16, 3) := by decide +kernel
theorem d_Scheme_takeVote_87 : decode kY_Scheme_takeVote.2.1 87 = .ok (.aload_n 0, 1) := by decide +kernel
theorem d_Scheme_takeVote_88 : decode kY_Scheme_takeVote.2.1 88 = .ok (.dup, 1) := by decide +kernel
theorem d_Scheme_takeVote_89 : decode kY_Scheme_takeVote.2.1 89 = .ok (.getfield 44, 3) := by decide +kernel
theorem f_Scheme_44_11 : mj_fl "TrustDesk$Scheme" 44 11 9 := ⟨kR_Scheme, kF_Scheme, 12, "TrustDesk$Scheme", rfl, kg_11, by decide, (mj_in1 (List.mem_of_getElem? (i := 984) (by decide +kernel)) rfl), Or.inl rfl⟩
theorem d_Scheme_takeVote_92 : decode kY_Scheme_takeVote.2.1 92 = .ok (.iconst 1, 1) := by decide +kernel
theorem d_Scheme_takeVote_93 : decode kY_Scheme_takeVote.2.1 93 = .ok (.iadd, 1) := by decide +kernel
theorem d_Scheme_takeVote_94 : decode kY_Scheme_takeVote.2.1 94 = .ok (.putfield 44, 3) := by decide +kernel
theorem p_Scheme_44_11 : mj_fp "TrustDesk$Scheme" 44 11 9 (kt_Scheme 9) false := ⟨kR_Scheme, kF_Scheme, 12, "TrustDesk$Scheme", kt_Scheme, rfl, kg_11, by decide, (mj_in1 (List.mem_of_getElem? (i := 984) (by decide +kernel)) rfl), Or.inl rfl, kto_Scheme, kn_Scheme, rfl, rfl, fun h => by cases h⟩
theorem d_Scheme_takeVote_97 : decode kY_Scheme_takeVote.2.1 97 = .ok (.return_, 1) := by decide +kernel
theorem d_Scheme_takeVote_63 : decode kY_Scheme_takeVote.2.1 63 = .ok (.iconst 1, 1) := by decide +kernel
theorem d_Scheme_takeVote_64 : decode kY_Scheme_takeVote.2.1 64 = .ok (.goto 4, 3) := by decide +kernel
theorem d_Scheme_takeVote_74 : decode kY_Scheme_takeVote.2.1 74 = .ok (.aload_n 0, 1) := by decide +kernel
theorem d_Scheme_takeVote_75 : decode kY_Scheme_takeVote.2.1 75 = .ok (.dup, 1) := by decide +kernel
theorem d_Scheme_takeVote_76 : decode kY_Scheme_takeVote.2.1 76 = .ok (.getfield 41, 3) := by decide +kernel
theorem f_Scheme_41_11 : mj_fl "TrustDesk$Scheme" 41 11 8 := ⟨kR_Scheme, kF_Scheme, 12, "TrustDesk$Scheme", rfl, kg_11, by decide, (mj_in1 (List.mem_of_getElem? (i := 982) (by decide +kernel)) rfl), Or.inl rfl⟩
theorem d_Scheme_takeVote_79 : decode kY_Scheme_takeVote.2.1 79 = .ok (.iconst 1, 1) := by decide +kernel
theorem d_Scheme_takeVote_80 : decode kY_Scheme_takeVote.2.1 80 = .ok (.iadd, 1) := by decide +kernel
theorem d_Scheme_takeVote_81 : decode kY_Scheme_takeVote.2.1 81 = .ok (.putfield 41, 3) := by decide +kernel
theorem p_Scheme_41_11 : mj_fp "TrustDesk$Scheme" 41 11 8 (kt_Scheme 8) false := ⟨kR_Scheme, kF_Scheme, 12, "TrustDesk$Scheme", kt_Scheme, rfl, kg_11, by decide, (mj_in1 (List.mem_of_getElem? (i := 982) (by decide +kernel)) rfl), Or.inl rfl, kto_Scheme, kn_Scheme, rfl, rfl, fun h => by cases h⟩
theorem d_Scheme_takeVote_84 : decode kY_Scheme_takeVote.2.1 84 = .ok (.goto 13, 3) := by decide +kernel
theorem d_Scheme_takeVote_44 : decode kY_Scheme_takeVote.2.1 44 = .ok (.aload_n 0, 1) := by decide +kernel
theorem d_Scheme_takeVote_45 : decode kY_Scheme_takeVote.2.1 45 = .ok (.dup, 1) := by decide +kernel
theorem d_Scheme_takeVote_46 : decode kY_Scheme_takeVote.2.1 46 = .ok (.getfield 44, 3) := by decide +kernel
theorem d_Scheme_takeVote_49 : decode kY_Scheme_takeVote.2.1 49 = .ok (.iconst 1, 1) := by decide +kernel
theorem d_Scheme_takeVote_50 : decode kY_Scheme_takeVote.2.1 50 = .ok (.isub, 1) := by decide +kernel
theorem d_Scheme_takeVote_51 : decode kY_Scheme_takeVote.2.1 51 = .ok (.putfield 44, 3) := by decide +kernel
theorem d_Scheme_takeVote_21 : decode kY_Scheme_takeVote.2.1 21 = .ok (.aload_n 0, 1) := by decide +kernel
theorem d_Scheme_takeVote_22 : decode kY_Scheme_takeVote.2.1 22 = .ok (.dup, 1) := by decide +kernel
theorem d_Scheme_takeVote_23 : decode kY_Scheme_takeVote.2.1 23 = .ok (.getfield 41, 3) := by decide +kernel
theorem d_Scheme_takeVote_26 : decode kY_Scheme_takeVote.2.1 26 = .ok (.iconst 1, 1) := by decide +kernel
theorem d_Scheme_takeVote_27 : decode kY_Scheme_takeVote.2.1 27 = .ok (.isub, 1) := by decide +kernel
theorem d_Scheme_takeVote_28 : decode kY_Scheme_takeVote.2.1 28 = .ok (.putfield 41, 3) := by decide +kernel
theorem d_Scheme_takeVote_31 : decode kY_Scheme_takeVote.2.1 31 = .ok (.goto 23, 3) := by decide +kernel
def w_Scheme_takeVote : List Nat := [1108, 1109, 1161]
theorem tc_Scheme_takeVote {g : mj_G} {l : Launch} {d : Nat} {T0 : tm_H} {M0 : mj_M} {n0 x9 : Nat} {o0 : Nat} {x1 : Int32} {x2 : Int32} (h_o0 : T0 o0 = some (0, 11, 0)) (I0 : tm_I tm_FT (tm_in w_Scheme_takeVote) x9 T0 M0 n0 T0 M0 n0) : mj_Met g l kY_Scheme_takeVote d [.ref o0, .int x1, .int x2] M0 n0 0 0 (tm_Q tm_FT (tm_in w_Scheme_takeVote) x9 T0 M0 n0 (fun r _ _ => r = none)) := by
  refine mj_enter (by decide) (Nat.le_of_ble_eq_true rfl) ?_
  refine mv_iload_n d_Scheme_takeVote_0 rfl rfl ?_
  have := mz_hi x1
  refine mv_if_ltZ (tgt := 10) (a := x1.toInt) d_Scheme_takeVote_1 (by decide) rfl (fun b1 => ?_) (fun b1 => ?_)
  · exact mv_vret d_Scheme_takeVote_10 rfl ⟨_, I0, rfl⟩
  · refine mv_iload_n d_Scheme_takeVote_4 rfl rfl ?_
    refine mv_bipush (v := 100) d_Scheme_takeVote_5 (by decide) ?_
    have := mz_hi x1
    refine mv_icmp_ltZ (tgt := 11) (a := x1.toInt) (b := 100) d_Scheme_takeVote_7 (by decide) rfl (by decide) (fun b2 => ?_) (fun b2 => ?_)
    · refine mv_aload_n d_Scheme_takeVote_11 rfl rfl ?_
      obtain ⟨a4, q3, t_a4⟩ := tm_atR I0 h_o0 (k := 11) rfl
      refine tr_getK q3 d_Scheme_takeVote_12 f_Scheme_19_11 ?_
      refine mv_iload_n d_Scheme_takeVote_15 rfl rfl ?_
      refine tr_bald I0 t_a4 (by decide) d_Scheme_takeVote_16 (vp_in_iff.mpr (by omega)) (fun v5 => ?_)
      refine mv_iconst (v := 1) d_Scheme_takeVote_17 (by decide) ?_
      have := mz_hi v5
      refine mv_icmp_neZ (tgt := 34) (a := v5.toInt) (b := 1) d_Scheme_takeVote_18 (by decide) rfl (by decide) (fun b6 => ?_) (fun b6 => ?_)
      · refine mv_aload_n d_Scheme_takeVote_34 rfl rfl ?_
        refine tr_getK (k := 11) q3 d_Scheme_takeVote_35 f_Scheme_19_11 ?_
        refine mv_iload_n d_Scheme_takeVote_38 rfl rfl ?_
        refine tr_bald I0 t_a4 (by decide) d_Scheme_takeVote_39 (vp_in_iff.mpr (by omega)) (fun v7 => ?_)
        refine mv_iconst (v := 2) d_Scheme_takeVote_40 (by decide) ?_
        have := mz_hi v7
        refine mv_icmp_neZ (tgt := 54) (a := v7.toInt) (b := 2) d_Scheme_takeVote_41 (by decide) rfl (by decide) (fun b8 => ?_) (fun b8 => ?_)
        · refine mv_aload_n d_Scheme_takeVote_54 rfl rfl ?_
          refine tr_getK (k := 11) q3 d_Scheme_takeVote_55 f_Scheme_19_11 ?_
          refine mv_iload_n d_Scheme_takeVote_58 rfl rfl ?_
          refine mv_iload_n d_Scheme_takeVote_59 rfl rfl ?_
          have := mz_hi x2
          refine mv_if_eqZ (tgt := 67) (a := x2.toInt) d_Scheme_takeVote_60 (by decide) rfl (fun b9 => ?_) (fun b9 => ?_)
          · refine mv_iconst (v := 2) d_Scheme_takeVote_67 (by decide) ?_
            refine mv_i2b (v := 2) d_Scheme_takeVote_68 (by decide) ?_
            refine tr_bastK tm_okF I0 t_a4 (by decide) (Or.inl (by decide)) d_Scheme_takeVote_69 (vp_in_iff.mpr (by omega)) (fun M10 I11 K12 => ?_)
            refine mv_iload_n d_Scheme_takeVote_70 rfl rfl ?_
            have := mz_hi x2
            refine mv_if_eqZ (tgt := 87) (a := x2.toInt) d_Scheme_takeVote_71 (by decide) rfl (fun b13 => ?_) (fun b13 => absurd b13 (by omega))
            refine mv_aload_n d_Scheme_takeVote_87 rfl rfl ?_
            refine mv_dup d_Scheme_takeVote_88 rfl ?_
            obtain ⟨v15, q14⟩ := tm_atI I11 h_o0 (k := 9) rfl
            refine tr_getK q14 d_Scheme_takeVote_89 f_Scheme_44_11 ?_
            refine mv_iconst (v := 1) d_Scheme_takeVote_92 (by decide) ?_
            refine mv_iadd d_Scheme_takeVote_93 ?_
            refine tr_putK tm_okF I11 h_o0 (k := 9) rfl ⟨_, rfl⟩ (Or.inl (by decide)) d_Scheme_takeVote_94 p_Scheme_44_11 rfl rfl (fun M16 I17 q18 K19 => ?_)
            exact mv_vret d_Scheme_takeVote_97 rfl ⟨_, I17, rfl⟩
          · refine mv_iconst (v := 1) d_Scheme_takeVote_63 (by decide) ?_
            refine mv_goto (tgt := 68) d_Scheme_takeVote_64 (by decide) ?_
            refine mv_i2b (v := 1) d_Scheme_takeVote_68 (by decide) ?_
            refine tr_bastK tm_okF I0 t_a4 (by decide) (Or.inl (by decide)) d_Scheme_takeVote_69 (vp_in_iff.mpr (by omega)) (fun M20 I21 K22 => ?_)
            refine mv_iload_n d_Scheme_takeVote_70 rfl rfl ?_
            have := mz_hi x2
            refine mv_if_eqZ (tgt := 87) (a := x2.toInt) d_Scheme_takeVote_71 (by decide) rfl (fun b23 => ?_) (fun b23 => ?_)
            · refine mv_aload_n d_Scheme_takeVote_87 rfl rfl ?_
              refine mv_dup d_Scheme_takeVote_88 rfl ?_
              obtain ⟨v25, q24⟩ := tm_atI I21 h_o0 (k := 9) rfl
              refine tr_getK q24 d_Scheme_takeVote_89 f_Scheme_44_11 ?_
              refine mv_iconst (v := 1) d_Scheme_takeVote_92 (by decide) ?_
              refine mv_iadd d_Scheme_takeVote_93 ?_
              refine tr_putK tm_okF I21 h_o0 (k := 9) rfl ⟨_, rfl⟩ (Or.inl (by decide)) d_Scheme_takeVote_94 p_Scheme_44_11 rfl rfl (fun M26 I27 q28 K29 => ?_)
              exact mv_vret d_Scheme_takeVote_97 rfl ⟨_, I27, rfl⟩
            · refine mv_aload_n d_Scheme_takeVote_74 rfl rfl ?_
              refine mv_dup d_Scheme_takeVote_75 rfl ?_
              obtain ⟨v31, q30⟩ := tm_atI I21 h_o0 (k := 8) rfl
              refine tr_getK q30 d_Scheme_takeVote_76 f_Scheme_41_11 ?_
              refine mv_iconst (v := 1) d_Scheme_takeVote_79 (by decide) ?_
              refine mv_iadd d_Scheme_takeVote_80 ?_
              refine tr_putK tm_okF I21 h_o0 (k := 8) rfl ⟨_, rfl⟩ (Or.inl (by decide)) d_Scheme_takeVote_81 p_Scheme_41_11 rfl rfl (fun M32 I33 q34 K35 => ?_)
              refine mv_goto (tgt := 97) d_Scheme_takeVote_84 (by decide) ?_
              exact mv_vret d_Scheme_takeVote_97 rfl ⟨_, I33, rfl⟩
        · refine mv_aload_n d_Scheme_takeVote_44 rfl rfl ?_
          refine mv_dup d_Scheme_takeVote_45 rfl ?_
          obtain ⟨v37, q36⟩ := tm_atI I0 h_o0 (k := 9) rfl
          refine tr_getK q36 d_Scheme_takeVote_46 f_Scheme_44_11 ?_
          refine mv_iconst (v := 1) d_Scheme_takeVote_49 (by decide) ?_
          refine mv_isub d_Scheme_takeVote_50 ?_
          refine tr_putK tm_okF I0 h_o0 (k := 9) rfl ⟨_, rfl⟩ (Or.inl (by decide)) d_Scheme_takeVote_51 p_Scheme_44_11 rfl rfl (fun M38 I39 q40 K41 => ?_)
          refine mv_aload_n d_Scheme_takeVote_54 rfl rfl ?_
          refine tr_getK (k := 11) (K41 _ 11 11 _ rfl q3) d_Scheme_takeVote_55 f_Scheme_19_11 ?_
          refine mv_iload_n d_Scheme_takeVote_58 rfl rfl ?_
          refine mv_iload_n d_Scheme_takeVote_59 rfl rfl ?_
          have := mz_hi x2
          refine mv_if_eqZ (tgt := 67) (a := x2.toInt) d_Scheme_takeVote_60 (by decide) rfl (fun b42 => ?_) (fun b42 => ?_)
          · refine mv_iconst (v := 2) d_Scheme_takeVote_67 (by decide) ?_
            refine mv_i2b (v := 2) d_Scheme_takeVote_68 (by decide) ?_
            refine tr_bastK tm_okF I39 t_a4 (by decide) (Or.inl (by decide)) d_Scheme_takeVote_69 (vp_in_iff.mpr (by omega)) (fun M43 I44 K45 => ?_)
            refine mv_iload_n d_Scheme_takeVote_70 rfl rfl ?_
            have := mz_hi x2
            refine mv_if_eqZ (tgt := 87) (a := x2.toInt) d_Scheme_takeVote_71 (by decide) rfl (fun b46 => ?_) (fun b46 => absurd b46 (by omega))
            refine mv_aload_n d_Scheme_takeVote_87 rfl rfl ?_
            refine mv_dup d_Scheme_takeVote_88 rfl ?_
            refine tr_getK (k := 9) (K45 _ 11 9 _ q40) d_Scheme_takeVote_89 f_Scheme_44_11 ?_
            refine mv_iconst (v := 1) d_Scheme_takeVote_92 (by decide) ?_
            refine mv_iadd d_Scheme_takeVote_93 ?_
            refine tr_putK tm_okF I44 h_o0 (k := 9) rfl ⟨_, rfl⟩ (Or.inl (by decide)) d_Scheme_takeVote_94 p_Scheme_44_11 rfl rfl (fun M47 I48 q49 K50 => ?_)
            exact mv_vret d_Scheme_takeVote_97 rfl ⟨_, I48, rfl⟩
          · refine mv_iconst (v := 1) d_Scheme_takeVote_63 (by decide) ?_
            refine mv_goto (tgt := 68) d_Scheme_takeVote_64 (by decide) ?_
            refine mv_i2b (v := 1) d_Scheme_takeVote_68 (by decide) ?_
            refine tr_bastK tm_okF I39 t_a4 (by decide) (Or.inl (by decide)) d_Scheme_takeVote_69 (vp_in_iff.mpr (by omega)) (fun M51 I52 K53 => ?_)
            refine mv_iload_n d_Scheme_takeVote_70 rfl rfl ?_
            have := mz_hi x2
            refine mv_if_eqZ (tgt := 87) (a := x2.toInt) d_Scheme_takeVote_71 (by decide) rfl (fun b54 => ?_) (fun b54 => ?_)
            · refine mv_aload_n d_Scheme_takeVote_87 rfl rfl ?_
              refine mv_dup d_Scheme_takeVote_88 rfl ?_
              refine tr_getK (k := 9) (K53 _ 11 9 _ q40) d_Scheme_takeVote_89 f_Scheme_44_11 ?_
              refine mv_iconst (v := 1) d_Scheme_takeVote_92 (by decide) ?_
              refine mv_iadd d_Scheme_takeVote_93 ?_
              refine tr_putK tm_okF I52 h_o0 (k := 9) rfl ⟨_, rfl⟩ (Or.inl (by decide)) d_Scheme_takeVote_94 p_Scheme_44_11 rfl rfl (fun M55 I56 q57 K58 => ?_)
              exact mv_vret d_Scheme_takeVote_97 rfl ⟨_, I56, rfl⟩
            · refine mv_aload_n d_Scheme_takeVote_74 rfl rfl ?_
              refine mv_dup d_Scheme_takeVote_75 rfl ?_
              obtain ⟨v60, q59⟩ := tm_atI I52 h_o0 (k := 8) rfl
              refine tr_getK q59 d_Scheme_takeVote_76 f_Scheme_41_11 ?_
              refine mv_iconst (v := 1) d_Scheme_takeVote_79 (by decide) ?_
              refine mv_iadd d_Scheme_takeVote_80 ?_
              refine tr_putK tm_okF I52 h_o0 (k := 8) rfl ⟨_, rfl⟩ (Or.inl (by decide)) d_Scheme_takeVote_81 p_Scheme_41_11 rfl rfl (fun M61 I62 q63 K64 => ?_)
              refine mv_goto (tgt := 97) d_Scheme_takeVote_84 (by decide) ?_
              exact mv_vret d_Scheme_takeVote_97 rfl ⟨_, I62, rfl⟩
      · refine mv_aload_n d_Scheme_takeVote_21 rfl rfl ?_
        refine mv_dup d_Scheme_takeVote_22 rfl ?_
        obtain ⟨v66, q65⟩ := tm_atI I0 h_o0 (k := 8) rfl
        refine tr_getK q65 d_Scheme_takeVote_23 f_Scheme_41_11 ?_
        refine mv_iconst (v := 1) d_Scheme_takeVote_26 (by decide) ?_
        refine mv_isub d_Scheme_takeVote_27 ?_
        refine tr_putK tm_okF I0 h_o0 (k := 8) rfl ⟨_, rfl⟩ (Or.inl (by decide)) d_Scheme_takeVote_28 p_Scheme_41_11 rfl rfl (fun M67 I68 q69 K70 => ?_)
        refine mv_goto (tgt := 54) d_Scheme_takeVote_31 (by decide) ?_
        refine mv_aload_n d_Scheme_takeVote_54 rfl rfl ?_
        refine tr_getK (k := 11) (K70 _ 11 11 _ rfl q3) d_Scheme_takeVote_55 f_Scheme_19_11 ?_
        refine mv_iload_n d_Scheme_takeVote_58 rfl rfl ?_
        refine mv_iload_n d_Scheme_takeVote_59 rfl rfl ?_
        have := mz_hi x2
        refine mv_if_eqZ (tgt := 67) (a := x2.toInt) d_Scheme_takeVote_60 (by decide) rfl (fun b71 => ?_) (fun b71 => ?_)
        · refine mv_iconst (v := 2) d_Scheme_takeVote_67 (by decide) ?_
          refine mv_i2b (v := 2) d_Scheme_takeVote_68 (by decide) ?_
          refine tr_bastK tm_okF I68 t_a4 (by decide) (Or.inl (by decide)) d_Scheme_takeVote_69 (vp_in_iff.mpr (by omega)) (fun M72 I73 K74 => ?_)
          refine mv_iload_n d_Scheme_takeVote_70 rfl rfl ?_
          have := mz_hi x2
          refine mv_if_eqZ (tgt := 87) (a := x2.toInt) d_Scheme_takeVote_71 (by decide) rfl (fun b75 => ?_) (fun b75 => absurd b75 (by omega))
          refine mv_aload_n d_Scheme_takeVote_87 rfl rfl ?_
          refine mv_dup d_Scheme_takeVote_88 rfl ?_
          obtain ⟨v77, q76⟩ := tm_atI I73 h_o0 (k := 9) rfl
          refine tr_getK q76 d_Scheme_takeVote_89 f_Scheme_44_11 ?_
          refine mv_iconst (v := 1) d_Scheme_takeVote_92 (by decide) ?_
          refine mv_iadd d_Scheme_takeVote_93 ?_
          refine tr_putK tm_okF I73 h_o0 (k := 9) rfl ⟨_, rfl⟩ (Or.inl (by decide)) d_Scheme_takeVote_94 p_Scheme_44_11 rfl rfl (fun M78 I79 q80 K81 => ?_)
          exact mv_vret d_Scheme_takeVote_97 rfl ⟨_, I79, rfl⟩
        · refine mv_iconst (v := 1) d_Scheme_takeVote_63 (by decide) ?_
          refine mv_goto (tgt := 68) d_Scheme_takeVote_64 (by decide) ?_
          refine mv_i2b (v := 1) d_Scheme_takeVote_68 (by decide) ?_
          refine tr_bastK tm_okF I68 t_a4 (by decide) (Or.inl (by decide)) d_Scheme_takeVote_69 (vp_in_iff.mpr (by omega)) (fun M82 I83 K84 => ?_)
          refine mv_iload_n d_Scheme_takeVote_70 rfl rfl ?_
          have := mz_hi x2
          refine mv_if_eqZ (tgt := 87) (a := x2.toInt) d_Scheme_takeVote_71 (by decide) rfl (fun b85 => ?_) (fun b85 => ?_)
          · refine mv_aload_n d_Scheme_takeVote_87 rfl rfl ?_
            refine mv_dup d_Scheme_takeVote_88 rfl ?_
            obtain ⟨v87, q86⟩ := tm_atI I83 h_o0 (k := 9) rfl
            refine tr_getK q86 d_Scheme_takeVote_89 f_Scheme_44_11 ?_
            refine mv_iconst (v := 1) d_Scheme_takeVote_92 (by decide) ?_
            refine mv_iadd d_Scheme_takeVote_93 ?_
            refine tr_putK tm_okF I83 h_o0 (k := 9) rfl ⟨_, rfl⟩ (Or.inl (by decide)) d_Scheme_takeVote_94 p_Scheme_44_11 rfl rfl (fun M88 I89 q90 K91 => ?_)
            exact mv_vret d_Scheme_takeVote_97 rfl ⟨_, I89, rfl⟩
          · refine mv_aload_n d_Scheme_takeVote_74 rfl rfl ?_
            refine mv_dup d_Scheme_takeVote_75 rfl ?_
            refine tr_getK (k := 8) (K84 _ 11 8 _ q69) d_Scheme_takeVote_76 f_Scheme_41_11 ?_
            refine mv_iconst (v := 1) d_Scheme_takeVote_79 (by decide) ?_
            refine mv_iadd d_Scheme_takeVote_80 ?_
            refine tr_putK tm_okF I83 h_o0 (k := 8) rfl ⟨_, rfl⟩ (Or.inl (by decide)) d_Scheme_takeVote_81 p_Scheme_41_11 rfl rfl (fun M92 I93 q94 K95 => ?_)
            refine mv_goto (tgt := 97) d_Scheme_takeVote_84 (by decide) ?_
            exact mv_vret d_Scheme_takeVote_97 rfl ⟨_, I93, rfl⟩
    · exact mv_vret d_Scheme_takeVote_10 rfl ⟨_, I0, rfl⟩
theorem lV_TrustDesk_298 : mj_lV "TrustDesk" 298 kY_Scheme_takeVote 2 := ⟨⟨(mj_in1 (List.mem_of_getElem? (i := 1045) (by decide +kernel)) rfl), (mj_in1 (List.mem_of_getElem? (i := 25) (by decide +kernel)) rfl), (mj_in1 (List.mem_of_getElem? (i := 1048) (by decide +kernel)) rfl), by decide, rfl, by decide⟩, (mj_in1 (List.mem_of_getElem? (i := 1046) (by decide +kernel)) rfl), (mj_in1 (List.mem_of_getElem? (i := 1047) (by decide +kernel)) rfl)⟩
theorem d_TrustDesk_vote_46 : decode kY_TrustDesk_vote.2.1 46 = .ok (.iconst 1, 1) := by decide +kernel
theorem d_TrustDesk_vote_47 : decode kY_TrustDesk_vote.2.1 47 = .ok (.ireturn, 1) := by decide +kernel
def w_TrustDesk_vote : List Nat := [1108, 1109, 1161]
theorem tc_TrustDesk_vote {g : mj_G} {l : Launch} {d : Nat} {T0 : tm_H} {M0 : mj_M} {n0 x9 : Nat} {o0 : Nat} {x1 : Int32} {x2 : Int32} {x3 : Int32} (h_o0 : T0 o0 = some (0, 12, 0)) (I0 : tm_I tm_FT (tm_in w_TrustDesk_vote) x9 T0 M0 n0 T0 M0 n0) : mj_Met g l kY_TrustDesk_vote (d + 5) [.ref o0, .int x1, .int x2, .int x3] M0 n0 0 0 (tm_Q tm_FT (tm_in w_TrustDesk_vote) x9 T0 M0 n0 (fun r _ _ => ∃ v : Int32, r = some (.int v) ∧ 0 ≤ v.toInt ∧ v.toInt ≤ 1)) := by
  refine mj_enter (by decide) (Nat.le_of_ble_eq_true rfl) ?_
  refine mv_aload_n d_TrustDesk_vote_0 rfl rfl ?_
  refine mv_iload_n d_TrustDesk_vote_1 rfl rfl ?_
  obtain ⟨_, b7, -⟩ := I0.1 _ _ h_o0
  refine mv_callV (kc' := 0) (ks' := 0) (As := [.int x1]) (st9 := [.int x1, .ref o0]) d_TrustDesk_vote_2 lV_TrustDesk_280 b7 rfl (tc_TrustDesk_schemeAt (d := (d + 1)) (x9 := x9) (o0 := o0) (x1 := x1) h_o0 I0.start) rfl (Nat.le_of_ble_eq_true rfl) (Nat.le_of_ble_eq_true rfl) (Nat.le_of_ble_eq_true rfl) (hst := rfl) (fun b1r M2 n3 b1 => ?_)
  obtain ⟨T4, J5, b9⟩ := b1
  have I6 := I0.call J5 (tm_sub (by decide)) (Or.inl rfl)
  have t10 := J5.up h_o0
  rcases b9 with rfl | ⟨a8, rfl, t_a8⟩
  · refine mv_astoreN (lv' := [(4, .null), (0, .ref o0), (1, .int x1), (2, .int x2), (3, .int x3)]) d_TrustDesk_vote_5 (by decide) rfl ?_
    refine mv_aloadN d_TrustDesk_vote_7 rfl ?_
    refine mv_ifnullN (tgt := 37) d_TrustDesk_vote_9 (by decide) ?_
    refine mv_iconst (v := 0) d_TrustDesk_vote_37 (by decide) ?_
    exact mv_iret d_TrustDesk_vote_38 rfl (by decide) ⟨_, I6, _, rfl, by decide, by decide⟩
  · refine mv_astore (lv' := [(4, .ref a8), (0, .ref o0), (1, .int x1), (2, .int x2), (3, .int x3)]) d_TrustDesk_vote_5 (by decide) rfl ?_
    refine mv_aload d_TrustDesk_vote_7 rfl ?_
    refine mv_ifnull d_TrustDesk_vote_9 ?_
    refine mv_iload_n d_TrustDesk_vote_12 rfl rfl ?_
    refine mv_callS (kc' := 0) (ks' := 0) (As := [.int x2]) (st9 := [.int x2]) d_TrustDesk_vote_13 lS_TrustDesk_261 (tc_TrustDesk_isPerson (d := (d + 4)) (x9 := x9) (x1 := x2)  I6.start) rfl (Nat.le_of_ble_eq_true rfl) (Nat.le_of_ble_eq_true rfl) (Nat.le_of_ble_eq_true rfl) (hst := rfl) (fun b11r M12 n13 b11 => ?_)
    obtain ⟨T14, J15, v17, rfl, b18, b19⟩ := b11
    have I16 := I6.call J15 (tm_sub (by decide)) (Or.inl rfl)
    have t20 := J15.up t_a8
    have t21 := J15.up t10
    have := mz_hi v17
    refine mv_if_eqZ (tgt := 37) (a := v17.toInt) d_TrustDesk_vote_16 (by decide) rfl (fun b22 => ?_) (fun b22 => ?_)
    · refine mv_iconst (v := 0) d_TrustDesk_vote_37 (by decide) ?_
      exact mv_iret d_TrustDesk_vote_38 rfl (by decide) ⟨_, I16, _, rfl, by decide, by decide⟩
    · refine mv_aload d_TrustDesk_vote_19 rfl ?_
      obtain ⟨v24, q23⟩ := tm_atI I16 t20 (k := 5) rfl
      refine tr_getK q23 d_TrustDesk_vote_21 f_TrustDesk_284_11 ?_
      have := mz_hi v24
      refine mv_if_neZ (tgt := 37) (a := v24.toInt) d_TrustDesk_vote_24 (by decide) rfl (fun b25 => ?_) (fun b25 => ?_)
      · refine mv_iconst (v := 0) d_TrustDesk_vote_37 (by decide) ?_
        exact mv_iret d_TrustDesk_vote_38 rfl (by decide) ⟨_, I16, _, rfl, by decide, by decide⟩
      · refine mv_aload_n d_TrustDesk_vote_27 rfl rfl ?_
        refine mv_aload d_TrustDesk_vote_28 rfl ?_
        refine mv_iload_n d_TrustDesk_vote_30 rfl rfl ?_
        obtain ⟨_, b32, -⟩ := I16.1 _ _ t21
        refine mv_callV (kc' := 0) (ks' := 0) (As := [.ref a8, .int x2]) (st9 := [.int x2, .ref a8, .ref o0]) d_TrustDesk_vote_31 lV_TrustDesk_294 b32 rfl (tc_TrustDesk_maySpeak (d := d) (x9 := x9) (o0 := o0) (o1 := a8) (x2 := x2) t21 t20 I16.start) rfl (Nat.le_of_ble_eq_true rfl) (Nat.le_of_ble_eq_true rfl) (Nat.le_of_ble_eq_true rfl) (hst := rfl) (fun b26r M27 n28 b26 => ?_)
        obtain ⟨T29, J30, v33, rfl, b34, b35⟩ := b26
        have I31 := I16.call J30 (tm_sub (by decide)) (Or.inl rfl)
        have t36 := J30.up t20
        have t37 := J30.up t21
        have q38 := J30.keep t20 (by decide) q23
        have := mz_hi v33
        refine mv_if_neZ (tgt := 39) (a := v33.toInt) d_TrustDesk_vote_34 (by decide) rfl (fun b39 => ?_) (fun b39 => ?_)
        · refine mv_aload d_TrustDesk_vote_39 rfl ?_
          refine mv_iload_n d_TrustDesk_vote_41 rfl rfl ?_
          refine mv_iload_n d_TrustDesk_vote_42 rfl rfl ?_
          obtain ⟨_, b46, -⟩ := I31.1 _ _ t36
          refine mv_callV (kc' := 0) (ks' := 0) (As := [.int x2, .int x3]) (st9 := [.int x3, .int x2, .ref a8]) d_TrustDesk_vote_43 lV_TrustDesk_298 b46 rfl (tc_Scheme_takeVote (d := (d + 4)) (x9 := x9) (o0 := a8) (x1 := x2) (x2 := x3) t36 I31.start) rfl (Nat.le_of_ble_eq_true rfl) (Nat.le_of_ble_eq_true rfl) (Nat.le_of_ble_eq_true rfl) (hst := rfl) (fun b40r M41 n42 b40 => ?_)
          obtain ⟨T43, J44, rfl⟩ := b40
          have I45 := I31.call J44 (tm_sub (by decide)) (Or.inl rfl)
          have t47 := J44.up t36
          have t48 := J44.up t37
          have q49 := J44.keep t36 (by decide) q38
          refine mv_iconst (v := 1) d_TrustDesk_vote_46 (by decide) ?_
          exact mv_iret d_TrustDesk_vote_47 rfl (by decide) ⟨_, I45, _, rfl, by decide, by decide⟩
        · refine mv_iconst (v := 0) d_TrustDesk_vote_37 (by decide) ?_
          exact mv_iret d_TrustDesk_vote_38 rfl (by decide) ⟨_, I31, _, rfl, by decide, by decide⟩
abbrev kY_TrustDesk_withdraws : mj_Y := (⟨"TrustDesk", "withdraws", "(II)Z"⟩, prog_1_method_21_code, 4, (Option.some Jvm.ClassFile.FieldType.boolean))
theorem d_TrustDesk_withdraws_0 : decode kY_TrustDesk_withdraws.2.1 0 = .ok (.aload_n 0, 1) := by decide +kernel
theorem d_TrustDesk_withdraws_1 : decode kY_TrustDesk_withdraws.2.1 1 = .ok (.iload_n 1, 1) := by decide +kernel
theorem d_TrustDesk_withdraws_2 : decode kY_TrustDesk_withdraws.2.1 2 = .ok (.invokevirtual 280, 3) := by decide +kernel
theorem d_TrustDesk_withdraws_5 : decode kY_TrustDesk_withdraws.2.1 5 = .ok (.astore_n 3, 1) := by decide +kernel
theorem d_TrustDesk_withdraws_6 : decode kY_TrustDesk_withdraws.2.1 6 = .ok (.aload_n 3, 1) := by decide +kernel
theorem d_TrustDesk_withdraws_7 : decode kY_TrustDesk_withdraws.2.1 7 = .ok (.ifnull 17, 3) := by decide +kernel
theorem d_TrustDesk_withdraws_24 : decode kY_TrustDesk_withdraws.2.1 24 = .ok (.iconst 0, 1) := by decide +kernel
theorem d_TrustDesk_withdraws_25 : decode kY_TrustDesk_withdraws.2.1 25 = .ok (.ireturn, 1) := by decide +kernel
theorem d_TrustDesk_withdraws_10 : decode kY_TrustDesk_withdraws.2.1 10 = .ok (.iload_n 2, 1) := by decide +kernel
theorem d_TrustDesk_withdraws_11 : decode kY_TrustDesk_withdraws.2.1 11 = .ok (.invokestatic 261, 3) := by decide +kernel
theorem d_TrustDesk_withdraws_14 : decode kY_TrustDesk_withdraws.2.1 14 = .ok (.ifCond .eq 10, 3) := by decide +kernel
theorem d_TrustDesk_withdraws_17 : decode kY_TrustDesk_withdraws.2.1 17 = .ok (.aload_n 3, 1) := by decide +kernel
theorem d_TrustDesk_withdraws_18 : decode kY_TrustDesk_withdraws.2.1 18 = .ok (.getfield 284, 3) := by decide +kernel
theorem d_TrustDesk_withdraws_21 : decode kY_TrustDesk_withdraws.2.1 21 = .ok (.ifCond .eq 5, 3) := by decide +kernel
theorem d_TrustDesk_withdraws_26 : decode kY_TrustDesk_withdraws.2.1 26 = .ok (.aload_n 3, 1) := by decide +kernel
theorem d_TrustDesk_withdraws_27 : decode kY_TrustDesk_withdraws.2.1 27 = .ok (.iload_n 2, 1) := by decide +kernel
theorem d_TrustDesk_withdraws_28 : decode kY_TrustDesk_withdraws.2.1 28 = .ok (.invokevirtual 291, 3) := by decide +kernel
abbrev kY_Scheme_dropObjection : mj_Y := (⟨"TrustDesk$Scheme", "dropObjection", "(I)Z"⟩, prog_12_method_3_code, 2, (Option.some Jvm.ClassFile.FieldType.boolean))
theorem d_Scheme_dropObjection_0 : decode kY_Scheme_dropObjection.2.1 0 = .ok (.iload_n 1, 1) := by decide +kernel
theorem d_Scheme_dropObjection_1 : decode kY_Scheme_dropObjection.2.1 1 = .ok (.ifCond .lt 18, 3) := by decide +kernel
theorem d_Scheme_dropObjection_19 : decode kY_Scheme_dropObjection.2.1 19 = .ok (.iconst 0, 1) := by decide +kernel
theorem d_Scheme_dropObjection_20 : decode kY_Scheme_dropObjection.2.1 20 = .ok (.ireturn, 1) := by decide +kernel
theorem d_Scheme_dropObjection_4 : decode kY_Scheme_dropObjection.2.1 4 = .ok (.iload_n 1, 1) := by decide +kernel
theorem d_Scheme_dropObjection_5 : decode kY_Scheme_dropObjection.2.1 5 = .ok (.bipush 100, 2) := by decide +kernel
theorem d_Scheme_dropObjection_7 : decode kY_Scheme_dropObjection.2.1 7 = .ok (.if_icmp .ge 12, 3) := by decide +kernel
theorem d_Scheme_dropObjection_10 : decode kY_Scheme_dropObjection.2.1 10 = .ok (.aload_n 0, 1) := by decide +kernel
theorem d_Scheme_dropObjection_11 : decode kY_Scheme_dropObjection.2.1 11 = .ok (.getfield 15, 3) := by decide +kernel
theorem d_Scheme_dropObjection_14 : decode kY_Scheme_dropObjection.2.1 14 = .ok (.iload_n 1, 1) := by decide +kernel
theorem d_Scheme_dropObjection_15 : decode kY_Scheme_dropObjection.2.1 15 = .ok (.baload, 1) := by decide +kernel
theorem d_Scheme_dropObjection_16 : decode kY_Scheme_dropObjection.2.1 16 = .ok (.ifCond .ne 5, 3) := by decide +kernel
theorem d_Scheme_dropObjection_21 : decode kY_Scheme_dropObjection.2.1 21 = .ok (.aload_n 0, 1) := by decide +kernel
theorem d_Scheme_dropObjection_22 : decode kY_Scheme_dropObjection.2.1 22 = .ok (.getfield 15, 3) := by decide +kernel
theorem d_Scheme_dropObjection_25 : decode kY_Scheme_dropObjection.2.1 25 = .ok (.iload_n 1, 1) := by decide +kernel
theorem d_Scheme_dropObjection_26 : decode kY_Scheme_dropObjection.2.1 26 = .ok (.iconst 0, 1) := by decide +kernel
theorem d_Scheme_dropObjection_27 : decode kY_Scheme_dropObjection.2.1 27 = .ok (.bastore, 1) := by decide +kernel
theorem d_Scheme_dropObjection_28 : decode kY_Scheme_dropObjection.2.1 28 = .ok (.aload_n 0, 1) := by decide +kernel
theorem d_Scheme_dropObjection_29 : decode kY_Scheme_dropObjection.2.1 29 = .ok (.dup, 1) := by decide +kernel
theorem d_Scheme_dropObjection_30 : decode kY_Scheme_dropObjection.2.1 30 = .ok (.getfield 38, 3) := by decide +kernel
theorem d_Scheme_dropObjection_33 : decode kY_Scheme_dropObjection.2.1 33 = .ok (.iconst 1, 1) := by decide +kernel
theorem d_Scheme_dropObjection_34 : decode kY_Scheme_dropObjection.2.1 34 = .ok (.isub, 1) := by decide +kernel
theorem d_Scheme_dropObjection_35 : decode kY_Scheme_dropObjection.2.1 35 = .ok (.putfield 38, 3) := by decide +kernel
theorem d_Scheme_dropObjection_38 : decode kY_Scheme_dropObjection.2.1 38 = .ok (.iconst 1, 1) := by decide +kernel
theorem d_Scheme_dropObjection_39 : decode kY_Scheme_dropObjection.2.1 39 = .ok (.ireturn, 1) := by decide +kernel
def w_Scheme_dropObjection : List Nat := [1107, 1160]
theorem tc_Scheme_dropObjection {g : mj_G} {l : Launch} {d : Nat} {T0 : tm_H} {M0 : mj_M} {n0 x9 : Nat} {o0 : Nat} {x1 : Int32} (h_o0 : T0 o0 = some (0, 11, 0)) (I0 : tm_I tm_FT (tm_in w_Scheme_dropObjection) x9 T0 M0 n0 T0 M0 n0) : mj_Met g l kY_Scheme_dropObjection d [.ref o0, .int x1] M0 n0 0 0 (tm_Q tm_FT (tm_in w_Scheme_dropObjection) x9 T0 M0 n0 (fun r _ _ => ∃ v : Int32, r = some (.int v) ∧ 0 ≤ v.toInt ∧ v.toInt ≤ 1)) := by
  refine mj_enter (by decide) (Nat.le_of_ble_eq_true rfl) ?_
  refine mv_iload_n d_Scheme_dropObjection_0 rfl rfl ?_
  have := mz_hi x1
  refine mv_if_ltZ (tgt := 19) (a := x1.toInt) d_Scheme_dropObjection_1 (by decide) rfl (fun b1 => ?_) (fun b1 => ?_)
  · refine mv_iconst (v := 0) d_Scheme_dropObjection_19 (by decide) ?_
    exact mv_iret d_Scheme_dropObjection_20 rfl (by decide) ⟨_, I0, _, rfl, by decide, by decide⟩
  · refine mv_iload_n d_Scheme_dropObjection_4 rfl rfl ?_
    refine mv_bipush (v := 100) d_Scheme_dropObjection_5 (by decide) ?_
    have := mz_hi x1
    refine mv_icmp_geZ (tgt := 19) (a := x1.toInt) (b := 100) d_Scheme_dropObjection_7 (by decide) rfl (by decide) (fun b2 => ?_) (fun b2 => ?_)
    · refine mv_iconst (v := 0) d_Scheme_dropObjection_19 (by decide) ?_
      exact mv_iret d_Scheme_dropObjection_20 rfl (by decide) ⟨_, I0, _, rfl, by decide, by decide⟩
    · refine mv_aload_n d_Scheme_dropObjection_10 rfl rfl ?_
      obtain ⟨a4, q3, t_a4⟩ := tm_atR I0 h_o0 (k := 10) rfl
      refine tr_getK q3 d_Scheme_dropObjection_11 f_Scheme_15_11 ?_
      refine mv_iload_n d_Scheme_dropObjection_14 rfl rfl ?_
      refine tr_zald I0 t_a4 (by decide) d_Scheme_dropObjection_15 (vp_in_iff.mpr (by omega)) (fun v5 => ?_)
      have := mz_hi v5
      refine mv_if_neZ (tgt := 21) (a := v5.toInt) d_Scheme_dropObjection_16 (by decide) rfl (fun b6 => ?_) (fun b6 => ?_)
      · refine mv_aload_n d_Scheme_dropObjection_21 rfl rfl ?_
        refine tr_getK (k := 10) q3 d_Scheme_dropObjection_22 f_Scheme_15_11 ?_
        refine mv_iload_n d_Scheme_dropObjection_25 rfl rfl ?_
        refine mv_iconst (v := 0) d_Scheme_dropObjection_26 (by decide) ?_
        refine tr_zastK tm_okF I0 t_a4 (by decide) (Or.inl (by decide)) d_Scheme_dropObjection_27 (vp_in_iff.mpr (by omega)) (fun M7 I8 K9 => ?_)
        refine mv_aload_n d_Scheme_dropObjection_28 rfl rfl ?_
        refine mv_dup d_Scheme_dropObjection_29 rfl ?_
        obtain ⟨v11, q10⟩ := tm_atI I8 h_o0 (k := 7) rfl
        refine tr_getK q10 d_Scheme_dropObjection_30 f_Scheme_38_11 ?_
        refine mv_iconst (v := 1) d_Scheme_dropObjection_33 (by decide) ?_
        refine mv_isub d_Scheme_dropObjection_34 ?_
        refine tr_putK tm_okF I8 h_o0 (k := 7) rfl ⟨_, rfl⟩ (Or.inl (by decide)) d_Scheme_dropObjection_35 p_Scheme_38_11 rfl rfl (fun M12 I13 q14 K15 => ?_)
        refine mv_iconst (v := 1) d_Scheme_dropObjection_38 (by decide) ?_
        exact mv_iret d_Scheme_dropObjection_39 rfl (by decide) ⟨_, I13, _, rfl, by decide, by decide⟩
      · refine mv_iconst (v := 0) d_Scheme_dropObjection_19 (by decide) ?_
        exact mv_iret d_Scheme_dropObjection_20 rfl (by decide) ⟨_, I0, _, rfl, by decide, by decide⟩
theorem lV_TrustDesk_291 : mj_lV "TrustDesk" 291 kY_Scheme_dropObjection 1 := ⟨⟨(mj_in1 (List.mem_of_getElem? (i := 1029) (by decide +kernel)) rfl), (mj_in1 (List.mem_of_getElem? (i := 25) (by decide +kernel)) rfl), (mj_in1 (List.mem_of_getElem? (i := 1032) (by decide +kernel)) rfl), by decide, rfl, by decide⟩, (mj_in1 (List.mem_of_getElem? (i := 1030) (by decide +kernel)) rfl), (mj_in1 (List.mem_of_getElem? (i := 1031) (by decide +kernel)) rfl)⟩
theorem d_TrustDesk_withdraws_31 : decode kY_TrustDesk_withdraws.2.1 31 = .ok (.ireturn, 1) := by decide +kernel
def w_TrustDesk_withdraws : List Nat := [1107, 1160]
theorem tc_TrustDesk_withdraws {g : mj_G} {l : Launch} {d : Nat} {T0 : tm_H} {M0 : mj_M} {n0 x9 : Nat} {o0 : Nat} {x1 : Int32} {x2 : Int32} (h_o0 : T0 o0 = some (0, 12, 0)) (I0 : tm_I tm_FT (tm_in w_TrustDesk_withdraws) x9 T0 M0 n0 T0 M0 n0) : mj_Met g l kY_TrustDesk_withdraws (d + 4) [.ref o0, .int x1, .int x2] M0 n0 0 0 (tm_Q tm_FT (tm_in w_TrustDesk_withdraws) x9 T0 M0 n0 (fun r _ _ => ∃ v : Int32, r = some (.int v) ∧ 0 ≤ v.toInt ∧ v.toInt ≤ 1)) := by
  refine mj_enter (by decide) (Nat.le_of_ble_eq_true rfl) ?_
  refine mv_aload_n d_TrustDesk_withdraws_0 rfl rfl ?_
  refine mv_iload_n d_TrustDesk_withdraws_1 rfl rfl ?_
  obtain ⟨_, b7, -⟩ := I0.1 _ _ h_o0
  refine mv_callV (kc' := 0) (ks' := 0) (As := [.int x1]) (st9 := [.int x1, .ref o0]) d_TrustDesk_withdraws_2 lV_TrustDesk_280 b7 rfl (tc_TrustDesk_schemeAt (d := d) (x9 := x9) (o0 := o0) (x1 := x1) h_o0 I0.start) rfl (Nat.le_of_ble_eq_true rfl) (Nat.le_of_ble_eq_true rfl) (Nat.le_of_ble_eq_true rfl) (hst := rfl) (fun b1r M2 n3 b1 => ?_)
  obtain ⟨T4, J5, b9⟩ := b1
  have I6 := I0.call J5 (tm_sub (by decide)) (Or.inl rfl)
  have t10 := J5.up h_o0
  rcases b9 with rfl | ⟨a8, rfl, t_a8⟩
  · refine mv_astore_nN (lv' := [(3, .null), (0, .ref o0), (1, .int x1), (2, .int x2)]) d_TrustDesk_withdraws_5 rfl (by decide) rfl ?_
    refine mv_aload_nN d_TrustDesk_withdraws_6 rfl rfl ?_
    refine mv_ifnullN (tgt := 24) d_TrustDesk_withdraws_7 (by decide) ?_
    refine mv_iconst (v := 0) d_TrustDesk_withdraws_24 (by decide) ?_
    exact mv_iret d_TrustDesk_withdraws_25 rfl (by decide) ⟨_, I6, _, rfl, by decide, by decide⟩
  · refine mv_astore_n (lv' := [(3, .ref a8), (0, .ref o0), (1, .int x1), (2, .int x2)]) d_TrustDesk_withdraws_5 rfl (by decide) rfl ?_
    refine mv_aload_n d_TrustDesk_withdraws_6 rfl rfl ?_
    refine mv_ifnull d_TrustDesk_withdraws_7 ?_
    refine mv_iload_n d_TrustDesk_withdraws_10 rfl rfl ?_
    refine mv_callS (kc' := 0) (ks' := 0) (As := [.int x2]) (st9 := [.int x2]) d_TrustDesk_withdraws_11 lS_TrustDesk_261 (tc_TrustDesk_isPerson (d := (d + 3)) (x9 := x9) (x1 := x2)  I6.start) rfl (Nat.le_of_ble_eq_true rfl) (Nat.le_of_ble_eq_true rfl) (Nat.le_of_ble_eq_true rfl) (hst := rfl) (fun b11r M12 n13 b11 => ?_)
    obtain ⟨T14, J15, v17, rfl, b18, b19⟩ := b11
    have I16 := I6.call J15 (tm_sub (by decide)) (Or.inl rfl)
    have t20 := J15.up t_a8
    have t21 := J15.up t10
    have := mz_hi v17
    refine mv_if_eqZ (tgt := 24) (a := v17.toInt) d_TrustDesk_withdraws_14 (by decide) rfl (fun b22 => ?_) (fun b22 => ?_)
    · refine mv_iconst (v := 0) d_TrustDesk_withdraws_24 (by decide) ?_
      exact mv_iret d_TrustDesk_withdraws_25 rfl (by decide) ⟨_, I16, _, rfl, by decide, by decide⟩
    · refine mv_aload_n d_TrustDesk_withdraws_17 rfl rfl ?_
      obtain ⟨v24, q23⟩ := tm_atI I16 t20 (k := 5) rfl
      refine tr_getK q23 d_TrustDesk_withdraws_18 f_TrustDesk_284_11 ?_
      have := mz_hi v24
      refine mv_if_eqZ (tgt := 26) (a := v24.toInt) d_TrustDesk_withdraws_21 (by decide) rfl (fun b25 => ?_) (fun b25 => ?_)
      · refine mv_aload_n d_TrustDesk_withdraws_26 rfl rfl ?_
        refine mv_iload_n d_TrustDesk_withdraws_27 rfl rfl ?_
        obtain ⟨_, b32, -⟩ := I16.1 _ _ t20
        refine mv_callV (kc' := 0) (ks' := 0) (As := [.int x2]) (st9 := [.int x2, .ref a8]) d_TrustDesk_withdraws_28 lV_TrustDesk_291 b32 rfl (tc_Scheme_dropObjection (d := (d + 3)) (x9 := x9) (o0 := a8) (x1 := x2) t20 I16.start) rfl (Nat.le_of_ble_eq_true rfl) (Nat.le_of_ble_eq_true rfl) (Nat.le_of_ble_eq_true rfl) (hst := rfl) (fun b26r M27 n28 b26 => ?_)
        obtain ⟨T29, J30, v33, rfl, b34, b35⟩ := b26
        have I31 := I16.call J30 (tm_sub (by decide)) (Or.inl rfl)
        have t36 := J30.up t20
        have t37 := J30.up t21
        have q38 := J30.keep t20 (by decide) q23
        exact mv_iret d_TrustDesk_withdraws_31 rfl (mz_nb (by omega) (by omega)) ⟨_, I31, _, rfl, by omega, by omega⟩
      · refine mv_iconst (v := 0) d_TrustDesk_withdraws_24 (by decide) ?_
        exact mv_iret d_TrustDesk_withdraws_25 rfl (by decide) ⟨_, I16, _, rfl, by decide, by decide⟩
abbrev kY_TrustDesk_worthOf : mj_Y := (⟨"TrustDesk", "worthOf", "(LTrustDesk$Fund;)J"⟩, prog_1_method_34_code, 4, (Option.some Jvm.ClassFile.FieldType.long))
theorem d_TrustDesk_worthOf_0 : decode kY_TrustDesk_worthOf.2.1 0 = .ok (.aload_n 1, 1) := by decide +kernel
theorem d_TrustDesk_worthOf_1 : decode kY_TrustDesk_worthOf.2.1 1 = .ok (.aload_n 0, 1) := by decide +kernel
theorem d_TrustDesk_worthOf_2 : decode kY_TrustDesk_worthOf.2.1 2 = .ok (.getfield 10, 3) := by decide +kernel
theorem d_TrustDesk_worthOf_5 : decode kY_TrustDesk_worthOf.2.1 5 = .ok (.bipush 6, 2) := by decide +kernel
theorem d_TrustDesk_worthOf_7 : decode kY_TrustDesk_worthOf.2.1 7 = .ok (.aload_n 0, 1) := by decide +kernel
theorem d_TrustDesk_worthOf_8 : decode kY_TrustDesk_worthOf.2.1 8 = .ok (.getfield 73, 3) := by decide +kernel
theorem d_TrustDesk_worthOf_11 : decode kY_TrustDesk_worthOf.2.1 11 = .ok (.invokestatic 366, 3) := by decide +kernel
theorem d_TrustDesk_worthOf_14 : decode kY_TrustDesk_worthOf.2.1 14 = .ok (.aload_n 0, 1) := by decide +kernel
theorem d_TrustDesk_worthOf_15 : decode kY_TrustDesk_worthOf.2.1 15 = .ok (.getfield 73, 3) := by decide +kernel
theorem d_TrustDesk_worthOf_18 : decode kY_TrustDesk_worthOf.2.1 18 = .ok (.invokevirtual 84, 3) := by decide +kernel
theorem d_TrustDesk_worthOf_21 : decode kY_TrustDesk_worthOf.2.1 21 = .ok (.i2l, 1) := by decide +kernel
theorem d_TrustDesk_worthOf_22 : decode kY_TrustDesk_worthOf.2.1 22 = .ok (.invokevirtual 184, 3) := by decide +kernel
theorem d_TrustDesk_worthOf_25 : decode kY_TrustDesk_worthOf.2.1 25 = .ok (.lstore_n 2, 1) := by decide +kernel
theorem d_TrustDesk_worthOf_26 : decode kY_TrustDesk_worthOf.2.1 26 = .ok (.aload_n 1, 1) := by decide +kernel
theorem d_TrustDesk_worthOf_27 : decode kY_TrustDesk_worthOf.2.1 27 = .ok (.getfield 170, 3) := by decide +kernel
theorem d_TrustDesk_worthOf_30 : decode kY_TrustDesk_worthOf.2.1 30 = .ok (.ldc2_w 426, 3) := by decide +kernel
theorem k_TrustDesk_426 : Cond.constantLong "TrustDesk" 426 20 ∈ mj_T := (mj_in1 (List.mem_of_getElem? (i := 1133) (by decide +kernel)) rfl)
theorem d_TrustDesk_worthOf_33 : decode kY_TrustDesk_worthOf.2.1 33 = .ok (.lload_n 2, 1) := by decide +kernel
theorem d_TrustDesk_worthOf_34 : decode kY_TrustDesk_worthOf.2.1 34 = .ok (.lmul, 1) := by decide +kernel
theorem d_TrustDesk_worthOf_35 : decode kY_TrustDesk_worthOf.2.1 35 = .ok (.ladd, 1) := by decide +kernel
theorem d_TrustDesk_worthOf_36 : decode kY_TrustDesk_worthOf.2.1 36 = .ok (.ldc2_w 428, 3) := by decide +kernel
theorem k_TrustDesk_428 : Cond.constantLong "TrustDesk" 428 1000000000000 ∈ mj_T := (mj_in1 (List.mem_of_getElem? (i := 1134) (by decide +kernel)) rfl)
theorem d_TrustDesk_worthOf_39 : decode kY_TrustDesk_worthOf.2.1 39 = .ok (.invokestatic 430, 3) := by decide +kernel
theorem d_TrustDesk_worthOf_42 : decode kY_TrustDesk_worthOf.2.1 42 = .ok (.lreturn, 1) := by decide +kernel
def w_TrustDesk_worthOf : List Nat := []
theorem tc_TrustDesk_worthOf {g : mj_G} {l : Launch} {d : Nat} {T0 : tm_H} {M0 : mj_M} {n0 x9 : Nat} {o0 : Nat} {o1 : Nat} (h_o0 : T0 o0 = some (0, 12, 0)) (h_o1 : T0 o1 = some (0, 6, 0)) (I0 : tm_I tm_FT (tm_in w_TrustDesk_worthOf) x9 T0 M0 n0 T0 M0 n0) : mj_Met g l kY_TrustDesk_worthOf (d + 1) [.ref o0, .ref o1] M0 n0 0 0 (tm_Q tm_FT (tm_in w_TrustDesk_worthOf) x9 T0 M0 n0 (fun r _ _ => ∃ v : Int64, r = some (.long v))) := by
  refine mj_enter (by decide) (Nat.le_of_ble_eq_true rfl) ?_
  refine mv_aload_n d_TrustDesk_worthOf_0 rfl rfl ?_
  refine mv_aload_n d_TrustDesk_worthOf_1 rfl rfl ?_
  obtain ⟨a2, q1, t_a2⟩ := tm_atR I0 h_o0 (k := 0) rfl
  refine tr_getK q1 d_TrustDesk_worthOf_2 f_TrustDesk_10_12 ?_
  refine mv_bipush (v := 6) d_TrustDesk_worthOf_5 (by decide) ?_
  refine mv_aload_n d_TrustDesk_worthOf_7 rfl rfl ?_
  obtain ⟨v4, q3⟩ := tm_atI I0 h_o0 (k := 12) rfl
  refine tr_getK q3 d_TrustDesk_worthOf_8 f_TrustDesk_73_12 ?_
  refine mv_callS (kc' := 0) (ks' := 0) (As := [.int v4]) (st9 := [.int v4, .int 6, .ref a2, .ref o1]) d_TrustDesk_worthOf_11 lS_TrustDesk_366 (tc_TrustDesk_yearOf (d := d) (x9 := x9) (x1 := v4)  I0.start) rfl (Nat.le_of_ble_eq_true rfl) (Nat.le_of_ble_eq_true rfl) (Nat.le_of_ble_eq_true rfl) (hst := rfl) (fun b5r M6 n7 b5 => ?_)
  obtain ⟨T8, J9, v11, rfl⟩ := b5
  have I10 := I0.call J9 (tm_sub (by decide)) (Or.inl rfl)
  have t12 := J9.up h_o0
  have t13 := J9.up h_o1
  have t14 := J9.up t_a2
  have q15 := J9.keep h_o0 (by decide) q1
  have q16 := J9.keep h_o0 (by decide) q3
  refine mv_aload_n d_TrustDesk_worthOf_14 rfl rfl ?_
  refine tr_getK (k := 12) q16 d_TrustDesk_worthOf_15 f_TrustDesk_73_12 ?_
  obtain ⟨_, b23, -⟩ := I10.1 _ _ t14
  refine mv_callV (kc' := 0) (ks' := 0) (As := [.int 6, .int v11, .int v4]) (st9 := [.int v4, .int v11, .int 6, .ref a2, .ref o1]) d_TrustDesk_worthOf_18 lV_TrustDesk_84 b23 rfl (tc_Facts_asKnown (d := d) (x9 := x9) (o0 := a2) (x1 := 6) (x2 := v11) (x3 := v4) t14 I10.start) rfl (Nat.le_of_ble_eq_true rfl) (Nat.le_of_ble_eq_true rfl) (Nat.le_of_ble_eq_true rfl) (hst := rfl) (fun b17r M18 n19 b17 => ?_)
  obtain ⟨T20, J21, v24, rfl⟩ := b17
  have I22 := I10.call J21 (tm_sub (by decide)) (Or.inl rfl)
  have t25 := J21.up t12
  have t26 := J21.up t13
  have q27 := J21.keep t12 (by decide) q15
  have t28 := J21.up t14
  have q29 := J21.keep t12 (by decide) q16
  refine mv_i2l (v := v24.toInt64) d_TrustDesk_worthOf_21 rfl ?_
  obtain ⟨_, b36, -⟩ := I22.1 _ _ t26
  refine mv_callV (kc' := 0) (ks' := 0) (As := [.long v24.toInt64]) (st9 := [.long v24.toInt64, .ref o1]) d_TrustDesk_worthOf_22 lV_TrustDesk_184 b36 rfl (tc_Fund_incomeAt (d := d) (x9 := x9) (o0 := o1) (x1 := v24.toInt64) t26 I22.start) rfl (Nat.le_of_ble_eq_true rfl) (Nat.le_of_ble_eq_true rfl) (Nat.le_of_ble_eq_true rfl) (hst := rfl) (fun b30r M31 n32 b30 => ?_)
  obtain ⟨T33, J34, v37, rfl⟩ := b30
  have I35 := I22.call J34 (tm_sub (by decide)) (Or.inl rfl)
  have t38 := J34.up t25
  have t39 := J34.up t26
  have q40 := J34.keep t25 (by decide) q27
  have t41 := J34.up t28
  have q42 := J34.keep t25 (by decide) q29
  refine mv_lstore_n (lv' := [(2, .long v37), (0, .ref o0), (1, .ref o1)]) d_TrustDesk_worthOf_25 rfl (by decide) rfl ?_
  refine mv_aload_n d_TrustDesk_worthOf_26 rfl rfl ?_
  obtain ⟨v44, q43⟩ := tm_atL I35 t39 (k := 3) rfl
  refine tr_getK q43 d_TrustDesk_worthOf_27 f_TrustDesk_170_6 ?_
  refine mv_ldc2 d_TrustDesk_worthOf_30 k_TrustDesk_426 ?_
  refine mv_lload_n d_TrustDesk_worthOf_33 rfl rfl ?_
  refine mv_lmul d_TrustDesk_worthOf_34 ?_
  refine mv_ladd d_TrustDesk_worthOf_35 ?_
  refine mv_ldc2 d_TrustDesk_worthOf_36 k_TrustDesk_428 ?_
  refine mv_mmin_long (v := (if 1000000000000 < (v44 + (20 * v37)) then 1000000000000 else (v44 + (20 * v37)))) d_TrustDesk_worthOf_39 (mj_in1 (List.mem_of_getElem? (i := 1135) (by decide +kernel)) rfl) (Nat.le_of_ble_eq_true rfl) rfl ?_
  exact mv_lret d_TrustDesk_worthOf_42 rfl ⟨_, I35, _, rfl⟩
abbrev kY_TrustDesk_write : mj_Y := (⟨"TrustDesk", "write", "(IIII)V"⟩, prog_1_method_16_code, 6, (Option.none : Option Jvm.ClassFile.FieldType))
theorem d_TrustDesk_write_0 : decode kY_TrustDesk_write.2.1 0 = .ok (.aload_n 0, 1) := by decide +kernel
theorem d_TrustDesk_write_1 : decode kY_TrustDesk_write.2.1 1 = .ok (.getfield 254, 3) := by decide +kernel
theorem d_TrustDesk_write_4 : decode kY_TrustDesk_write.2.1 4 = .ok (.iconst 4, 1) := by decide +kernel
theorem d_TrustDesk_write_5 : decode kY_TrustDesk_write.2.1 5 = .ok (.imul, 1) := by decide +kernel
theorem d_TrustDesk_write_6 : decode kY_TrustDesk_write.2.1 6 = .ok (.istore 5, 2) := by decide +kernel
theorem d_TrustDesk_write_8 : decode kY_TrustDesk_write.2.1 8 = .ok (.iload 5, 2) := by decide +kernel
theorem d_TrustDesk_write_10 : decode kY_TrustDesk_write.2.1 10 = .ok (.ifCond .lt 15, 3) := by decide +kernel
theorem d_TrustDesk_write_25 : decode kY_TrustDesk_write.2.1 25 = .ok (.return_, 1) := by decide +kernel
theorem d_TrustDesk_write_13 : decode kY_TrustDesk_write.2.1 13 = .ok (.iload 5, 2) := by decide +kernel
theorem d_TrustDesk_write_15 : decode kY_TrustDesk_write.2.1 15 = .ok (.aload_n 0, 1) := by decide +kernel
theorem d_TrustDesk_write_16 : decode kY_TrustDesk_write.2.1 16 = .ok (.getfield 62, 3) := by decide +kernel
theorem d_TrustDesk_write_19 : decode kY_TrustDesk_write.2.1 19 = .ok (.arraylength, 1) := by decide +kernel
theorem d_TrustDesk_write_20 : decode kY_TrustDesk_write.2.1 20 = .ok (.iconst 4, 1) := by decide +kernel
theorem d_TrustDesk_write_21 : decode kY_TrustDesk_write.2.1 21 = .ok (.isub, 1) := by decide +kernel
theorem d_TrustDesk_write_22 : decode kY_TrustDesk_write.2.1 22 = .ok (.if_icmp .le 4, 3) := by decide +kernel
theorem d_TrustDesk_write_26 : decode kY_TrustDesk_write.2.1 26 = .ok (.aload_n 0, 1) := by decide +kernel
theorem d_TrustDesk_write_27 : decode kY_TrustDesk_write.2.1 27 = .ok (.getfield 62, 3) := by decide +kernel
theorem d_TrustDesk_write_30 : decode kY_TrustDesk_write.2.1 30 = .ok (.iload 5, 2) := by decide +kernel
theorem d_TrustDesk_write_32 : decode kY_TrustDesk_write.2.1 32 = .ok (.iload_n 1, 1) := by decide +kernel
theorem d_TrustDesk_write_33 : decode kY_TrustDesk_write.2.1 33 = .ok (.iastore, 1) := by decide +kernel
theorem d_TrustDesk_write_34 : decode kY_TrustDesk_write.2.1 34 = .ok (.aload_n 0, 1) := by decide +kernel
theorem d_TrustDesk_write_35 : decode kY_TrustDesk_write.2.1 35 = .ok (.getfield 62, 3) := by decide +kernel
theorem d_TrustDesk_write_38 : decode kY_TrustDesk_write.2.1 38 = .ok (.iload 5, 2) := by decide +kernel
theorem d_TrustDesk_write_40 : decode kY_TrustDesk_write.2.1 40 = .ok (.iconst 1, 1) := by decide +kernel
theorem d_TrustDesk_write_41 : decode kY_TrustDesk_write.2.1 41 = .ok (.iadd, 1) := by decide +kernel
theorem d_TrustDesk_write_42 : decode kY_TrustDesk_write.2.1 42 = .ok (.iload_n 2, 1) := by decide +kernel
theorem d_TrustDesk_write_43 : decode kY_TrustDesk_write.2.1 43 = .ok (.iastore, 1) := by decide +kernel
theorem d_TrustDesk_write_44 : decode kY_TrustDesk_write.2.1 44 = .ok (.aload_n 0, 1) := by decide +kernel
theorem d_TrustDesk_write_45 : decode kY_TrustDesk_write.2.1 45 = .ok (.getfield 62, 3) := by decide +kernel
theorem d_TrustDesk_write_48 : decode kY_TrustDesk_write.2.1 48 = .ok (.iload 5, 2) := by decide +kernel
theorem d_TrustDesk_write_50 : decode kY_TrustDesk_write.2.1 50 = .ok (.iconst 2, 1) := by decide +kernel
theorem d_TrustDesk_write_51 : decode kY_TrustDesk_write.2.1 51 = .ok (.iadd, 1) := by decide +kernel
theorem d_TrustDesk_write_52 : decode kY_TrustDesk_write.2.1 52 = .ok (.iload_n 3, 1) := by decide +kernel
theorem d_TrustDesk_write_53 : decode kY_TrustDesk_write.2.1 53 = .ok (.iastore, 1) := by decide +kernel
theorem d_TrustDesk_write_54 : decode kY_TrustDesk_write.2.1 54 = .ok (.aload_n 0, 1) := by decide +kernel
theorem d_TrustDesk_write_55 : decode kY_TrustDesk_write.2.1 55 = .ok (.getfield 62, 3) := by decide +kernel
theorem d_TrustDesk_write_58 : decode kY_TrustDesk_write.2.1 58 = .ok (.iload 5, 2) := by decide +kernel
theorem d_TrustDesk_write_60 : decode kY_TrustDesk_write.2.1 60 = .ok (.iconst 3, 1) := by decide +kernel
theorem d_TrustDesk_write_61 : decode kY_TrustDesk_write.2.1 61 = .ok (.iadd, 1) := by decide +kernel
theorem d_TrustDesk_write_62 : decode kY_TrustDesk_write.2.1 62 = .ok (.iload 4, 2) := by decide +kernel
theorem d_TrustDesk_write_64 : decode kY_TrustDesk_write.2.1 64 = .ok (.iastore, 1) := by decide +kernel
theorem d_TrustDesk_write_65 : decode kY_TrustDesk_write.2.1 65 = .ok (.aload_n 0, 1) := by decide +kernel
theorem d_TrustDesk_write_66 : decode kY_TrustDesk_write.2.1 66 = .ok (.dup, 1) := by decide +kernel
theorem d_TrustDesk_write_67 : decode kY_TrustDesk_write.2.1 67 = .ok (.getfield 254, 3) := by decide +kernel
theorem d_TrustDesk_write_70 : decode kY_TrustDesk_write.2.1 70 = .ok (.iconst 1, 1) := by decide +kernel
theorem d_TrustDesk_write_71 : decode kY_TrustDesk_write.2.1 71 = .ok (.iadd, 1) := by decide +kernel
theorem d_TrustDesk_write_72 : decode kY_TrustDesk_write.2.1 72 = .ok (.putfield 254, 3) := by decide +kernel
theorem p_TrustDesk_254_12 : mj_fp "TrustDesk" 254 12 10 (kt_TrustDesk 10) false := ⟨kR_TrustDesk, kF_TrustDesk, 13, "TrustDesk", kt_TrustDesk, rfl, kg_12, by decide, (mj_in1 (List.mem_of_getElem? (i := 277) (by decide +kernel)) rfl), Or.inl rfl, kto_TrustDesk, kn_TrustDesk, rfl, rfl, fun h => by cases h⟩
theorem d_TrustDesk_write_75 : decode kY_TrustDesk_write.2.1 75 = .ok (.return_, 1) := by decide +kernel
def w_TrustDesk_write : List Nat := [1210, 1259]
theorem tc_TrustDesk_write {g : mj_G} {l : Launch} {d : Nat} {T0 : tm_H} {M0 : mj_M} {n0 x9 : Nat} {o0 : Nat} {x1 : Int32} {x2 : Int32} {x3 : Int32} {x4 : Int32} (h_o0 : T0 o0 = some (0, 12, 0)) (I0 : tm_I tm_FT (tm_in w_TrustDesk_write) x9 T0 M0 n0 T0 M0 n0) : mj_Met g l kY_TrustDesk_write d [.ref o0, .int x1, .int x2, .int x3, .int x4] M0 n0 0 0 (tm_Q tm_FT (tm_in w_TrustDesk_write) x9 T0 M0 n0 (fun r _ _ => r = none)) := by
  refine mj_enter (by decide) (Nat.le_of_ble_eq_true rfl) ?_
  refine mv_aload_n d_TrustDesk_write_0 rfl rfl ?_
  obtain ⟨v2, q1⟩ := tm_atI I0 h_o0 (k := 10) rfl
  refine tr_getK q1 d_TrustDesk_write_1 f_TrustDesk_254_12 ?_
  refine mv_iconst (v := 4) d_TrustDesk_write_4 (by decide) ?_
  refine mv_imul d_TrustDesk_write_5 ?_
  refine mv_istore (lv' := [(5, .int (v2 * 4)), (0, .ref o0), (1, .int x1), (2, .int x2), (3, .int x3), (4, .int x4)]) d_TrustDesk_write_6 (by decide) rfl ?_
  refine mv_iload d_TrustDesk_write_8 rfl ?_
  have := mz_hi (v2 * 4)
  refine mv_if_ltZ (tgt := 25) (a := (v2 * 4).toInt) d_TrustDesk_write_10 (by decide) rfl (fun b3 => ?_) (fun b3 => ?_)
  · exact mv_vret d_TrustDesk_write_25 rfl ⟨_, I0, rfl⟩
  · refine mv_iload d_TrustDesk_write_13 rfl ?_
    refine mv_aload_n d_TrustDesk_write_15 rfl rfl ?_
    obtain ⟨a5, q4, t_a5⟩ := tm_atR I0 h_o0 (k := 9) rfl
    refine tr_getK q4 d_TrustDesk_write_16 f_TrustDesk_62_12 ?_
    refine tr_alen (v := 2400) I0 t_a5 (by decide) (by decide) d_TrustDesk_write_19 ?_
    refine mv_iconst (v := 4) d_TrustDesk_write_20 (by decide) ?_
    refine mv_isubv (v := 2396) d_TrustDesk_write_21 (by decide) ?_
    have := mz_hi (v2 * 4)
    refine mv_icmp_leZ (tgt := 26) (a := (v2 * 4).toInt) (b := 2396) d_TrustDesk_write_22 (by decide) rfl (by decide) (fun b6 => ?_) (fun b6 => ?_)
    · refine mv_aload_n d_TrustDesk_write_26 rfl rfl ?_
      refine tr_getK (k := 9) q4 d_TrustDesk_write_27 f_TrustDesk_62_12 ?_
      refine mv_iload d_TrustDesk_write_30 rfl ?_
      refine mv_iload_n d_TrustDesk_write_32 rfl rfl ?_
      refine tr_iastK tm_okF I0 t_a5 (by decide) (Or.inl (by decide)) d_TrustDesk_write_33 (vp_in_iff.mpr (by omega)) (fun M7 I8 K9 => ?_)
      refine mv_aload_n d_TrustDesk_write_34 rfl rfl ?_
      refine tr_getK (k := 9) (K9 _ 12 9 _ q4) d_TrustDesk_write_35 f_TrustDesk_62_12 ?_
      refine mv_iload d_TrustDesk_write_38 rfl ?_
      refine mv_iconst (v := 1) d_TrustDesk_write_40 (by decide) ?_
      refine mv_iadd d_TrustDesk_write_41 ?_
      refine mv_iload_n d_TrustDesk_write_42 rfl rfl ?_
      have b10 : ((v2 * 4) + 1).toInt = (v2 * 4).toInt + 1 := mz_addn 1 1 (by decide) (by omega) (by omega)
      refine tr_iastK tm_okF I8 t_a5 (by decide) (Or.inl (by decide)) d_TrustDesk_write_43 (vp_in_iff.mpr (by omega)) (fun M11 I12 K13 => ?_)
      refine mv_aload_n d_TrustDesk_write_44 rfl rfl ?_
      refine tr_getK (k := 9) (K13 _ 12 9 _ (K9 _ 12 9 _ q4)) d_TrustDesk_write_45 f_TrustDesk_62_12 ?_
      refine mv_iload d_TrustDesk_write_48 rfl ?_
      refine mv_iconst (v := 2) d_TrustDesk_write_50 (by decide) ?_
      refine mv_iadd d_TrustDesk_write_51 ?_
      refine mv_iload_n d_TrustDesk_write_52 rfl rfl ?_
      have b14 : ((v2 * 4) + 2).toInt = (v2 * 4).toInt + 2 := mz_addn 2 2 (by decide) (by omega) (by omega)
      refine tr_iastK tm_okF I12 t_a5 (by decide) (Or.inl (by decide)) d_TrustDesk_write_53 (vp_in_iff.mpr (by omega)) (fun M15 I16 K17 => ?_)
      refine mv_aload_n d_TrustDesk_write_54 rfl rfl ?_
      refine tr_getK (k := 9) (K17 _ 12 9 _ (K13 _ 12 9 _ (K9 _ 12 9 _ q4))) d_TrustDesk_write_55 f_TrustDesk_62_12 ?_
      refine mv_iload d_TrustDesk_write_58 rfl ?_
      refine mv_iconst (v := 3) d_TrustDesk_write_60 (by decide) ?_
      refine mv_iadd d_TrustDesk_write_61 ?_
      refine mv_iload d_TrustDesk_write_62 rfl ?_
      have b18 : ((v2 * 4) + 3).toInt = (v2 * 4).toInt + 3 := mz_addn 3 3 (by decide) (by omega) (by omega)
      refine tr_iastK tm_okF I16 t_a5 (by decide) (Or.inl (by decide)) d_TrustDesk_write_64 (vp_in_iff.mpr (by omega)) (fun M19 I20 K21 => ?_)
      refine mv_aload_n d_TrustDesk_write_65 rfl rfl ?_
      refine mv_dup d_TrustDesk_write_66 rfl ?_
      refine tr_getK (k := 10) (K21 _ 12 10 _ (K17 _ 12 10 _ (K13 _ 12 10 _ (K9 _ 12 10 _ q1)))) d_TrustDesk_write_67 f_TrustDesk_254_12 ?_
      refine mv_iconst (v := 1) d_TrustDesk_write_70 (by decide) ?_
      refine mv_iadd d_TrustDesk_write_71 ?_
      refine tr_putK tm_okF I20 h_o0 (k := 10) rfl ⟨_, rfl⟩ (Or.inl (by decide)) d_TrustDesk_write_72 p_TrustDesk_254_12 rfl rfl (fun M22 I23 q24 K25 => ?_)
      exact mv_vret d_TrustDesk_write_75 rfl ⟨_, I23, rfl⟩
    · exact mv_vret d_TrustDesk_write_25 rfl ⟨_, I0, rfl⟩
abbrev kY_Act_barKind : mj_Y := (⟨"TrustDesk$Act", "barKind", "(I)I"⟩, prog_2_method_4_code, 2, (Option.some Jvm.ClassFile.FieldType.int))
theorem d_Act_barKind_0 : decode kY_Act_barKind.2.1 0 = .ok (.iload_n 1, 1) := by decide +kernel
theorem d_Act_barKind_1 : decode kY_Act_barKind.2.1 1 = .ok (.ifCond .lt 18, 3) := by decide +kernel
theorem d_Act_barKind_19 : decode kY_Act_barKind.2.1 19 = .ok (.iconst (-1), 1) := by decide +kernel
theorem d_Act_barKind_20 : decode kY_Act_barKind.2.1 20 = .ok (.ireturn, 1) := by decide +kernel
theorem d_Act_barKind_4 : decode kY_Act_barKind.2.1 4 = .ok (.iload_n 1, 1) := by decide +kernel
theorem d_Act_barKind_5 : decode kY_Act_barKind.2.1 5 = .ok (.bipush 20, 2) := by decide +kernel
theorem d_Act_barKind_7 : decode kY_Act_barKind.2.1 7 = .ok (.if_icmp .ge 12, 3) := by decide +kernel
theorem d_Act_barKind_10 : decode kY_Act_barKind.2.1 10 = .ok (.aload_n 0, 1) := by decide +kernel
theorem d_Act_barKind_11 : decode kY_Act_barKind.2.1 11 = .ok (.getfield 30, 3) := by decide +kernel
theorem f_Act_30_1 : mj_fl "TrustDesk$Act" 30 1 4 := ⟨kR_Act, kF_Act, 5, "TrustDesk$Act", rfl, kg_1, by decide, (mj_in1 (List.mem_of_getElem? (i := 253) (by decide +kernel)) rfl), Or.inl rfl⟩
theorem d_Act_barKind_14 : decode kY_Act_barKind.2.1 14 = .ok (.iload_n 1, 1) := by decide +kernel
theorem d_Act_barKind_15 : decode kY_Act_barKind.2.1 15 = .ok (.iaload, 1) := by decide +kernel
theorem d_Act_barKind_16 : decode kY_Act_barKind.2.1 16 = .ok (.goto 4, 3) := by decide +kernel
def w_Act_barKind : List Nat := []
theorem tc_Act_barKind {g : mj_G} {l : Launch} {d : Nat} {T0 : tm_H} {M0 : mj_M} {n0 x9 : Nat} {o0 : Nat} {x1 : Int32} (h_o0 : T0 o0 = some (0, 1, 0)) (I0 : tm_I tm_FT (tm_in w_Act_barKind) x9 T0 M0 n0 T0 M0 n0) : mj_Met g l kY_Act_barKind d [.ref o0, .int x1] M0 n0 0 0 (tm_Q tm_FT (tm_in w_Act_barKind) x9 T0 M0 n0 (fun r _ _ => ∃ v : Int32, r = some (.int v))) := by
  refine mj_enter (by decide) (Nat.le_of_ble_eq_true rfl) ?_
  refine mv_iload_n d_Act_barKind_0 rfl rfl ?_
  have := mz_hi x1
  refine mv_if_ltZ (tgt := 19) (a := x1.toInt) d_Act_barKind_1 (by decide) rfl (fun b1 => ?_) (fun b1 => ?_)
  · refine mv_iconst (v := (-1)) d_Act_barKind_19 (by decide) ?_
    exact mv_iret d_Act_barKind_20 rfl (by first | rfl | decide) ⟨_, I0, _, rfl⟩
  · refine mv_iload_n d_Act_barKind_4 rfl rfl ?_
    refine mv_bipush (v := 20) d_Act_barKind_5 (by decide) ?_
    have := mz_hi x1
    refine mv_icmp_geZ (tgt := 19) (a := x1.toInt) (b := 20) d_Act_barKind_7 (by decide) rfl (by decide) (fun b2 => ?_) (fun b2 => ?_)
    · refine mv_iconst (v := (-1)) d_Act_barKind_19 (by decide) ?_
      exact mv_iret d_Act_barKind_20 rfl (by first | rfl | decide) ⟨_, I0, _, rfl⟩
    · refine mv_aload_n d_Act_barKind_10 rfl rfl ?_
      obtain ⟨a4, q3, t_a4⟩ := tm_atR I0 h_o0 (k := 4) rfl
      refine tr_getK q3 d_Act_barKind_11 f_Act_30_1 ?_
      refine mv_iload_n d_Act_barKind_14 rfl rfl ?_
      refine tr_iald I0 t_a4 (by decide) d_Act_barKind_15 (vp_in_iff.mpr (by omega)) (fun v5 => ?_)
      refine mv_goto (tgt := 20) d_Act_barKind_16 (by decide) ?_
      exact mv_iret d_Act_barKind_20 rfl (by first | rfl | decide) ⟨_, I0, _, rfl⟩
abbrev kY_Act_setRule : mj_Y := (⟨"TrustDesk$Act", "setRule", "(II)V"⟩, prog_2_method_3_code, 3, (Option.none : Option Jvm.ClassFile.FieldType))
theorem d_Act_setRule_0 : decode kY_Act_setRule.2.1 0 = .ok (.iload_n 1, 1) := by decide +kernel
theorem d_Act_setRule_1 : decode kY_Act_setRule.2.1 1 = .ok (.ifCond .lt 19, 3) := by decide +kernel
theorem d_Act_setRule_20 : decode kY_Act_setRule.2.1 20 = .ok (.return_, 1) := by decide +kernel
theorem d_Act_setRule_4 : decode kY_Act_setRule.2.1 4 = .ok (.iload_n 1, 1) := by decide +kernel
theorem d_Act_setRule_5 : decode kY_Act_setRule.2.1 5 = .ok (.aload_n 0, 1) := by decide +kernel
theorem d_Act_setRule_6 : decode kY_Act_setRule.2.1 6 = .ok (.getfield 27, 3) := by decide +kernel
theorem d_Act_setRule_9 : decode kY_Act_setRule.2.1 9 = .ok (.arraylength, 1) := by decide +kernel
theorem d_Act_setRule_10 : decode kY_Act_setRule.2.1 10 = .ok (.if_icmp .ge 10, 3) := by decide +kernel
theorem d_Act_setRule_13 : decode kY_Act_setRule.2.1 13 = .ok (.aload_n 0, 1) := by decide +kernel
theorem d_Act_setRule_14 : decode kY_Act_setRule.2.1 14 = .ok (.getfield 27, 3) := by decide +kernel
theorem d_Act_setRule_17 : decode kY_Act_setRule.2.1 17 = .ok (.iload_n 1, 1) := by decide +kernel
theorem d_Act_setRule_18 : decode kY_Act_setRule.2.1 18 = .ok (.iload_n 2, 1) := by decide +kernel
theorem d_Act_setRule_19 : decode kY_Act_setRule.2.1 19 = .ok (.iastore, 1) := by decide +kernel
def w_Act_setRule : List Nat := [153]
theorem tc_Act_setRule {g : mj_G} {l : Launch} {d : Nat} {T0 : tm_H} {M0 : mj_M} {n0 x9 : Nat} {o0 : Nat} {x1 : Int32} {x2 : Int32} (h_o0 : T0 o0 = some (0, 1, 0)) (I0 : tm_I tm_FT (tm_in w_Act_setRule) x9 T0 M0 n0 T0 M0 n0) : mj_Met g l kY_Act_setRule d [.ref o0, .int x1, .int x2] M0 n0 0 0 (tm_Q tm_FT (tm_in w_Act_setRule) x9 T0 M0 n0 (fun r _ _ => r = none)) := by
  refine mj_enter (by decide) (Nat.le_of_ble_eq_true rfl) ?_
  refine mv_iload_n d_Act_setRule_0 rfl rfl ?_
  have := mz_hi x1
  refine mv_if_ltZ (tgt := 20) (a := x1.toInt) d_Act_setRule_1 (by decide) rfl (fun b1 => ?_) (fun b1 => ?_)
  · exact mv_vret d_Act_setRule_20 rfl ⟨_, I0, rfl⟩
  · refine mv_iload_n d_Act_setRule_4 rfl rfl ?_
    refine mv_aload_n d_Act_setRule_5 rfl rfl ?_
    obtain ⟨a3, q2, t_a3⟩ := tm_atR I0 h_o0 (k := 3) rfl
    refine tr_getK q2 d_Act_setRule_6 f_Act_27_1 ?_
    refine tr_alen (v := 6) I0 t_a3 (by decide) (by decide) d_Act_setRule_9 ?_
    have := mz_hi x1
    refine mv_icmp_geZ (tgt := 20) (a := x1.toInt) (b := 6) d_Act_setRule_10 (by decide) rfl (by decide) (fun b4 => ?_) (fun b4 => ?_)
    · exact mv_vret d_Act_setRule_20 rfl ⟨_, I0, rfl⟩
    · refine mv_aload_n d_Act_setRule_13 rfl rfl ?_
      refine tr_getK (k := 3) q2 d_Act_setRule_14 f_Act_27_1 ?_
      refine mv_iload_n d_Act_setRule_17 rfl rfl ?_
      refine mv_iload_n d_Act_setRule_18 rfl rfl ?_
      refine tr_iastK tm_okF I0 t_a3 (by decide) (Or.inl (by decide)) d_Act_setRule_19 (vp_in_iff.mpr (by omega)) (fun M5 I6 K7 => ?_)
      exact mv_vret d_Act_setRule_20 rfl ⟨_, I6, rfl⟩
abbrev kY_End_init : mj_Y := (⟨"TrustDesk$End", "<init>", "(LTrustDesk$EndText;)V"⟩, prog_4_method_1_code, 2, (Option.none : Option Jvm.ClassFile.FieldType))
theorem d_End_init_0 : decode kY_End_init.2.1 0 = .ok (.aload_n 0, 1) := by decide +kernel
theorem d_End_init_1 : decode kY_End_init.2.1 1 = .ok (.invokespecial 3, 3) := by decide +kernel
theorem d_End_init_4 : decode kY_End_init.2.1 4 = .ok (.aload_n 0, 1) := by decide +kernel
theorem d_End_init_5 : decode kY_End_init.2.1 5 = .ok (.iconst 0, 1) := by decide +kernel
theorem d_End_init_6 : decode kY_End_init.2.1 6 = .ok (.putfield 9, 3) := by decide +kernel
theorem d_End_init_9 : decode kY_End_init.2.1 9 = .ok (.aload_n 0, 1) := by decide +kernel
theorem d_End_init_10 : decode kY_End_init.2.1 10 = .ok (.iconst (-1), 1) := by decide +kernel
theorem d_End_init_11 : decode kY_End_init.2.1 11 = .ok (.putfield 15, 3) := by decide +kernel
theorem d_End_init_14 : decode kY_End_init.2.1 14 = .ok (.aload_n 0, 1) := by decide +kernel
theorem d_End_init_15 : decode kY_End_init.2.1 15 = .ok (.aload_n 1, 1) := by decide +kernel
theorem d_End_init_16 : decode kY_End_init.2.1 16 = .ok (.putfield 18, 3) := by decide +kernel
theorem d_End_init_19 : decode kY_End_init.2.1 19 = .ok (.return_, 1) := by decide +kernel
def w_End_init : List Nat := [300, 301, 303]
theorem tc_End_init {g : mj_G} {l : Launch} {d : Nat} {T0 : tm_H} {M0 : mj_M} {n0 x9 : Nat} {o0 : Nat} {o1 : Nat} (h_o0 : T0 o0 = some (0, 3, 0)) (h_o1 : T0 o1 = some (0, 4, 0)) (I0 : tm_I tm_FT (tm_in w_End_init) x9 T0 M0 n0 T0 M0 n0) : mj_Met g l kY_End_init (d + 1) [.ref o0, .ref o1] M0 n0 0 0 (tm_Q tm_FT (tm_in w_End_init) x9 T0 M0 n0 (fun r _ _ => r = none)) := by
  refine mj_enter (by decide) (Nat.le_of_ble_eq_true rfl) ?_
  refine mv_aload_n d_End_init_0 rfl rfl ?_
  refine mv_oinit d_End_init_1 (mj_in1 (List.mem_of_getElem? (i := 784) (by decide +kernel)) rfl) (Nat.le_of_ble_eq_true rfl) ?_
  refine mv_aload_n d_End_init_4 rfl rfl ?_
  refine mv_iconst (v := 0) d_End_init_5 (by decide) ?_
  refine tr_putK tm_okF I0 h_o0 (k := 1) rfl ⟨_, rfl⟩ (Or.inl (by decide)) d_End_init_6 p_End_9_3 rfl rfl (fun M1 I2 q3 K4 => ?_)
  refine mv_aload_n d_End_init_9 rfl rfl ?_
  refine mv_iconst (v := (-1)) d_End_init_10 (by decide) ?_
  refine tr_putK tm_okF I2 h_o0 (k := 3) rfl ⟨_, rfl⟩ (Or.inl (by decide)) d_End_init_11 p_End_15_3 rfl rfl (fun M5 I6 q7 K8 => ?_)
  refine mv_aload_n d_End_init_14 rfl rfl ?_
  refine mv_aload_n d_End_init_15 rfl rfl ?_
  refine tr_putK tm_okF I6 h_o0 (k := 0) rfl ⟨_, rfl, h_o1⟩ (Or.inl (by decide)) d_End_init_16 p_End_18_3 rfl rfl (fun M9 I10 q11 K12 => ?_)
  exact mv_vret d_End_init_19 rfl ⟨_, I10, rfl⟩
abbrev kY_End_fails : mj_Y := (⟨"TrustDesk$End", "fails", "(II)V"⟩, prog_4_method_3_code, 3, (Option.none : Option Jvm.ClassFile.FieldType))
theorem d_End_fails_0 : decode kY_End_fails.2.1 0 = .ok (.aload_n 0, 1) := by decide +kernel
theorem d_End_fails_1 : decode kY_End_fails.2.1 1 = .ok (.dup, 1) := by decide +kernel
theorem d_End_fails_2 : decode kY_End_fails.2.1 2 = .ok (.getfield 25, 3) := by decide +kernel
theorem f_End_25_3 : mj_fl "TrustDesk$End" 25 3 2 := ⟨kR_End, kF_End, 4, "TrustDesk$End", rfl, kg_3, by decide, (mj_in1 (List.mem_of_getElem? (i := 791) (by decide +kernel)) rfl), Or.inl rfl⟩
theorem d_End_fails_5 : decode kY_End_fails.2.1 5 = .ok (.iconst 1, 1) := by decide +kernel
theorem d_End_fails_6 : decode kY_End_fails.2.1 6 = .ok (.iadd, 1) := by decide +kernel
theorem d_End_fails_7 : decode kY_End_fails.2.1 7 = .ok (.putfield 25, 3) := by decide +kernel
theorem d_End_fails_10 : decode kY_End_fails.2.1 10 = .ok (.aload_n 0, 1) := by decide +kernel
theorem d_End_fails_11 : decode kY_End_fails.2.1 11 = .ok (.getfield 25, 3) := by decide +kernel
theorem d_End_fails_14 : decode kY_End_fails.2.1 14 = .ok (.iload_n 2, 1) := by decide +kernel
theorem d_End_fails_15 : decode kY_End_fails.2.1 15 = .ok (.if_icmp .lt 13, 3) := by decide +kernel
theorem d_End_fails_28 : decode kY_End_fails.2.1 28 = .ok (.return_, 1) := by decide +kernel
theorem d_End_fails_18 : decode kY_End_fails.2.1 18 = .ok (.aload_n 0, 1) := by decide +kernel
theorem d_End_fails_19 : decode kY_End_fails.2.1 19 = .ok (.iconst 1, 1) := by decide +kernel
theorem d_End_fails_20 : decode kY_End_fails.2.1 20 = .ok (.putfield 9, 3) := by decide +kernel
theorem d_End_fails_23 : decode kY_End_fails.2.1 23 = .ok (.aload_n 0, 1) := by decide +kernel
theorem d_End_fails_24 : decode kY_End_fails.2.1 24 = .ok (.iload_n 1, 1) := by decide +kernel
theorem d_End_fails_25 : decode kY_End_fails.2.1 25 = .ok (.putfield 15, 3) := by decide +kernel
def w_End_fails : List Nat := [301, 302, 303]
theorem tc_End_fails {g : mj_G} {l : Launch} {d : Nat} {T0 : tm_H} {M0 : mj_M} {n0 x9 : Nat} {o0 : Nat} {x1 : Int32} {x2 : Int32} (h_o0 : T0 o0 = some (0, 3, 0)) (I0 : tm_I tm_FT (tm_in w_End_fails) x9 T0 M0 n0 T0 M0 n0) : mj_Met g l kY_End_fails d [.ref o0, .int x1, .int x2] M0 n0 0 0 (tm_Q tm_FT (tm_in w_End_fails) x9 T0 M0 n0 (fun r _ _ => r = none)) := by
  refine mj_enter (by decide) (Nat.le_of_ble_eq_true rfl) ?_
  refine mv_aload_n d_End_fails_0 rfl rfl ?_
  refine mv_dup d_End_fails_1 rfl ?_
  obtain ⟨v2, q1⟩ := tm_atI I0 h_o0 (k := 2) rfl
  refine tr_getK q1 d_End_fails_2 f_End_25_3 ?_
  refine mv_iconst (v := 1) d_End_fails_5 (by decide) ?_
  refine mv_iadd d_End_fails_6 ?_
  refine tr_putK tm_okF I0 h_o0 (k := 2) rfl ⟨_, rfl⟩ (Or.inl (by decide)) d_End_fails_7 p_End_25_3 rfl rfl (fun M3 I4 q5 K6 => ?_)
  refine mv_aload_n d_End_fails_10 rfl rfl ?_
  refine tr_getK (k := 2) q5 d_End_fails_11 f_End_25_3 ?_
  refine mv_iload_n d_End_fails_14 rfl rfl ?_
  have := mz_hi (v2 + 1)
  have := mz_hi x2
  refine mv_icmp_ltZ (tgt := 28) (a := (v2 + 1).toInt) (b := x2.toInt) d_End_fails_15 (by decide) rfl rfl (fun b7 => ?_) (fun b7 => ?_)
  · exact mv_vret d_End_fails_28 rfl ⟨_, I4, rfl⟩
  · refine mv_aload_n d_End_fails_18 rfl rfl ?_
    refine mv_iconst (v := 1) d_End_fails_19 (by decide) ?_
    refine tr_putK tm_okF I4 h_o0 (k := 1) rfl ⟨_, rfl⟩ (Or.inl (by decide)) d_End_fails_20 p_End_9_3 rfl rfl (fun M8 I9 q10 K11 => ?_)
    refine mv_aload_n d_End_fails_23 rfl rfl ?_
    refine mv_iload_n d_End_fails_24 rfl rfl ?_
    refine tr_putK tm_okF I9 h_o0 (k := 3) rfl ⟨_, rfl⟩ (Or.inl (by decide)) d_End_fails_25 p_End_15_3 rfl rfl (fun M12 I13 q14 K15 => ?_)
    exact mv_vret d_End_fails_28 rfl ⟨_, I13, rfl⟩
abbrev kY_Fund_giveUp : mj_Y := (⟨"TrustDesk$Fund", "giveUp", "(I)V"⟩, prog_7_method_16_code, 3, (Option.none : Option Jvm.ClassFile.FieldType))
theorem d_Fund_giveUp_0 : decode kY_Fund_giveUp.2.1 0 = .ok (.aload_n 0, 1) := by decide +kernel
theorem d_Fund_giveUp_1 : decode kY_Fund_giveUp.2.1 1 = .ok (.iload_n 1, 1) := by decide +kernel
theorem d_Fund_giveUp_2 : decode kY_Fund_giveUp.2.1 2 = .ok (.putfield 18, 3) := by decide +kernel
theorem p_Fund_18_6 : mj_fp "TrustDesk$Fund" 18 6 8 (kt_Fund 8) false := ⟨kR_Fund, kF_Fund, 15, "TrustDesk$Fund", kt_Fund, rfl, kg_6, by decide, (mj_in1 (List.mem_of_getElem? (i := 684) (by decide +kernel)) rfl), Or.inl rfl, kto_Fund, kn_Fund, rfl, rfl, fun h => by cases h⟩
theorem d_Fund_giveUp_5 : decode kY_Fund_giveUp.2.1 5 = .ok (.aload_n 0, 1) := by decide +kernel
theorem d_Fund_giveUp_6 : decode kY_Fund_giveUp.2.1 6 = .ok (.lconst 0, 1) := by decide +kernel
theorem d_Fund_giveUp_7 : decode kY_Fund_giveUp.2.1 7 = .ok (.putfield 49, 3) := by decide +kernel
theorem d_Fund_giveUp_10 : decode kY_Fund_giveUp.2.1 10 = .ok (.aload_n 0, 1) := by decide +kernel
theorem d_Fund_giveUp_11 : decode kY_Fund_giveUp.2.1 11 = .ok (.iconst 0, 1) := by decide +kernel
theorem d_Fund_giveUp_12 : decode kY_Fund_giveUp.2.1 12 = .ok (.putfield 42, 3) := by decide +kernel
theorem p_Fund_42_6 : mj_fp "TrustDesk$Fund" 42 6 1 (kt_Fund 1) false := ⟨kR_Fund, kF_Fund, 15, "TrustDesk$Fund", kt_Fund, rfl, kg_6, by decide, (mj_in1 (List.mem_of_getElem? (i := 666) (by decide +kernel)) rfl), Or.inl rfl, kto_Fund, kn_Fund, rfl, rfl, fun h => by cases h⟩
theorem d_Fund_giveUp_15 : decode kY_Fund_giveUp.2.1 15 = .ok (.aload_n 0, 1) := by decide +kernel
theorem d_Fund_giveUp_16 : decode kY_Fund_giveUp.2.1 16 = .ok (.iconst 0, 1) := by decide +kernel
theorem d_Fund_giveUp_17 : decode kY_Fund_giveUp.2.1 17 = .ok (.putfield 45, 3) := by decide +kernel
theorem p_Fund_45_6 : mj_fp "TrustDesk$Fund" 45 6 2 (kt_Fund 2) false := ⟨kR_Fund, kF_Fund, 15, "TrustDesk$Fund", kt_Fund, rfl, kg_6, by decide, (mj_in1 (List.mem_of_getElem? (i := 668) (by decide +kernel)) rfl), Or.inl rfl, kto_Fund, kn_Fund, rfl, rfl, fun h => by cases h⟩
theorem d_Fund_giveUp_20 : decode kY_Fund_giveUp.2.1 20 = .ok (.aload_n 0, 1) := by decide +kernel
theorem d_Fund_giveUp_21 : decode kY_Fund_giveUp.2.1 21 = .ok (.iconst 0, 1) := by decide +kernel
theorem d_Fund_giveUp_22 : decode kY_Fund_giveUp.2.1 22 = .ok (.putfield 87, 3) := by decide +kernel
theorem d_Fund_giveUp_25 : decode kY_Fund_giveUp.2.1 25 = .ok (.iconst 0, 1) := by decide +kernel
theorem d_Fund_giveUp_26 : decode kY_Fund_giveUp.2.1 26 = .ok (.istore_n 2, 1) := by decide +kernel
theorem d_Fund_giveUp_27 : decode kY_Fund_giveUp.2.1 27 = .ok (.iload_n 2, 1) := by decide +kernel
theorem d_Fund_giveUp_28 : decode kY_Fund_giveUp.2.1 28 = .ok (.bipush 100, 2) := by decide +kernel
theorem d_Fund_giveUp_30 : decode kY_Fund_giveUp.2.1 30 = .ok (.if_icmp .ge 16, 3) := by decide +kernel
theorem d_Fund_giveUp_46 : decode kY_Fund_giveUp.2.1 46 = .ok (.iconst 0, 1) := by decide +kernel
theorem d_Fund_giveUp_47 : decode kY_Fund_giveUp.2.1 47 = .ok (.istore_n 2, 1) := by decide +kernel
theorem d_Fund_giveUp_48 : decode kY_Fund_giveUp.2.1 48 = .ok (.iload_n 2, 1) := by decide +kernel
theorem d_Fund_giveUp_49 : decode kY_Fund_giveUp.2.1 49 = .ok (.aload_n 0, 1) := by decide +kernel
theorem d_Fund_giveUp_50 : decode kY_Fund_giveUp.2.1 50 = .ok (.getfield 24, 3) := by decide +kernel
theorem d_Fund_giveUp_53 : decode kY_Fund_giveUp.2.1 53 = .ok (.invokevirtual 61, 3) := by decide +kernel
theorem d_Fund_giveUp_56 : decode kY_Fund_giveUp.2.1 56 = .ok (.if_icmp .ge 24, 3) := by decide +kernel
theorem d_Fund_giveUp_80 : decode kY_Fund_giveUp.2.1 80 = .ok (.return_, 1) := by decide +kernel
theorem d_Fund_giveUp_59 : decode kY_Fund_giveUp.2.1 59 = .ok (.aload_n 0, 1) := by decide +kernel
theorem d_Fund_giveUp_60 : decode kY_Fund_giveUp.2.1 60 = .ok (.getfield 24, 3) := by decide +kernel
theorem d_Fund_giveUp_63 : decode kY_Fund_giveUp.2.1 63 = .ok (.iload_n 2, 1) := by decide +kernel
theorem d_Fund_giveUp_64 : decode kY_Fund_giveUp.2.1 64 = .ok (.invokevirtual 65, 3) := by decide +kernel
theorem d_Fund_giveUp_67 : decode kY_Fund_giveUp.2.1 67 = .ok (.checkcast 69, 3) := by decide +kernel
theorem d_Fund_giveUp_70 : decode kY_Fund_giveUp.2.1 70 = .ok (.iconst 2, 1) := by decide +kernel
theorem d_Fund_giveUp_71 : decode kY_Fund_giveUp.2.1 71 = .ok (.putfield 80, 3) := by decide +kernel
theorem p_Fund_80_3 : mj_fp "TrustDesk$Fund" 80 3 1 (kt_End 1) false := ⟨kR_End, kF_End, 4, "TrustDesk$End", kt_End, rfl, kg_3, by decide, (mj_in1 (List.mem_of_getElem? (i := 789) (by decide +kernel)) rfl), Or.inl rfl, kto_End, kn_End, rfl, rfl, fun h => by cases h⟩
theorem d_Fund_giveUp_74 : decode kY_Fund_giveUp.2.1 74 = .ok (.iinc 2 1, 3) := by decide +kernel
theorem d_Fund_giveUp_77 : decode kY_Fund_giveUp.2.1 77 = .ok (.goto (-29), 3) := by decide +kernel
theorem d_Fund_giveUp_33 : decode kY_Fund_giveUp.2.1 33 = .ok (.aload_n 0, 1) := by decide +kernel
theorem d_Fund_giveUp_34 : decode kY_Fund_giveUp.2.1 34 = .ok (.getfield 32, 3) := by decide +kernel
theorem d_Fund_giveUp_37 : decode kY_Fund_giveUp.2.1 37 = .ok (.iload_n 2, 1) := by decide +kernel
theorem d_Fund_giveUp_38 : decode kY_Fund_giveUp.2.1 38 = .ok (.iconst 0, 1) := by decide +kernel
theorem d_Fund_giveUp_39 : decode kY_Fund_giveUp.2.1 39 = .ok (.bastore, 1) := by decide +kernel
theorem d_Fund_giveUp_40 : decode kY_Fund_giveUp.2.1 40 = .ok (.iinc 2 1, 3) := by decide +kernel
theorem d_Fund_giveUp_43 : decode kY_Fund_giveUp.2.1 43 = .ok (.goto (-16), 3) := by decide +kernel
def w_Fund_giveUp : List Nat := [301, 601, 602, 603, 607, 608, 663]
theorem tc_Fund_giveUp {g : mj_G} {l : Launch} {d : Nat} {T0 : tm_H} {M0 : mj_M} {n0 x9 : Nat} {o0 : Nat} {x1 : Int32} (h_o0 : T0 o0 = some (0, 6, 0)) (I0 : tm_I tm_FT (tm_in w_Fund_giveUp) x9 T0 M0 n0 T0 M0 n0) : mj_Met g l kY_Fund_giveUp (d + 3) [.ref o0, .int x1] M0 n0 0 0 (tm_Q tm_FT (tm_in w_Fund_giveUp) x9 T0 M0 n0 (fun r _ _ => r = none)) := by
  refine mj_enter (by decide) (Nat.le_of_ble_eq_true rfl) ?_
  refine mv_aload_n d_Fund_giveUp_0 rfl rfl ?_
  refine mv_iload_n d_Fund_giveUp_1 rfl rfl ?_
  refine tr_putK tm_okF I0 h_o0 (k := 8) rfl ⟨_, rfl⟩ (Or.inl (by decide)) d_Fund_giveUp_2 p_Fund_18_6 rfl rfl (fun M1 I2 q3 K4 => ?_)
  refine mv_aload_n d_Fund_giveUp_5 rfl rfl ?_
  refine mv_lconst (v := 0) d_Fund_giveUp_6 (by decide) ?_
  refine tr_putK tm_okF I2 h_o0 (k := 3) rfl ⟨_, rfl⟩ (Or.inl (by decide)) d_Fund_giveUp_7 p_Fund_49_6 rfl rfl (fun M5 I6 q7 K8 => ?_)
  refine mv_aload_n d_Fund_giveUp_10 rfl rfl ?_
  refine mv_iconst (v := 0) d_Fund_giveUp_11 (by decide) ?_
  refine tr_putK tm_okF I6 h_o0 (k := 1) rfl ⟨_, rfl⟩ (Or.inl (by decide)) d_Fund_giveUp_12 p_Fund_42_6 rfl rfl (fun M9 I10 q11 K12 => ?_)
  refine mv_aload_n d_Fund_giveUp_15 rfl rfl ?_
  refine mv_iconst (v := 0) d_Fund_giveUp_16 (by decide) ?_
  refine tr_putK tm_okF I10 h_o0 (k := 2) rfl ⟨_, rfl⟩ (Or.inl (by decide)) d_Fund_giveUp_17 p_Fund_45_6 rfl rfl (fun M13 I14 q15 K16 => ?_)
  refine mv_aload_n d_Fund_giveUp_20 rfl rfl ?_
  refine mv_iconst (v := 0) d_Fund_giveUp_21 (by decide) ?_
  refine tr_putK tm_okF I14 h_o0 (k := 7) rfl ⟨_, rfl⟩ (Or.inl (by decide)) d_Fund_giveUp_22 p_Fund_87_6 rfl rfl (fun M17 I18 q19 K20 => ?_)
  refine mv_iconst (v := 0) d_Fund_giveUp_25 (by decide) ?_
  refine mv_istore_n (lv' := [(2, .int 0), (0, .ref o0), (1, .int x1)]) d_Fund_giveUp_26 rfl (by decide) rfl ?_
  have L27_21 : ∀ (k : Nat) (i2_21 : Int32) (T_21 : tm_H) (M_21 : mj_M) (n_21 : Nat), tm_I tm_FT (tm_in w_Fund_giveUp) x9 T0 M0 n0 T_21 M_21 n_21 → T_21 o0 = some (0, 6, 0) → 0 ≤ i2_21.toInt → 2147483647 - i2_21.toInt < (k : Int) → mj_V g l kY_Fund_giveUp (d + 3) 27 [(2, .int i2_21), (0, .ref o0), (1, .int x1)] [] M_21 n_21 0 0 (tm_Q tm_FT (tm_in w_Fund_giveUp) x9 T0 M0 n0 (fun r _ _ => r = none)) := by
    intro k21
    induction k21 with
    | zero =>
      intro i2_21 T_21 M_21 n_21 I_21 h_q0_21 iv0_21 hk21
      have := mz_hi i2_21
      omega
    | succ k21 ih21 =>
      intro i2_21 T_21 M_21 n_21 I_21 h_q0_21 iv0_21 hk21
      refine mv_iload_n d_Fund_giveUp_27 rfl rfl ?_
      refine mv_bipush (v := 100) d_Fund_giveUp_28 (by decide) ?_
      have := mz_hi i2_21
      refine mv_icmp_geZ (tgt := 46) (a := i2_21.toInt) (b := 100) d_Fund_giveUp_30 (by decide) rfl (by decide) (fun b22 => ?_) (fun b22 => ?_)
      · refine mv_iconst (v := 0) d_Fund_giveUp_46 (by decide) ?_
        refine mv_istore_n (lv' := [(2, .int 0), (0, .ref o0), (1, .int x1)]) d_Fund_giveUp_47 rfl (by decide) rfl ?_
        have L48_23 : ∀ (k : Nat) (i2_23 : Int32) (T_23 : tm_H) (M_23 : mj_M) (n_23 : Nat), tm_I tm_FT (tm_in w_Fund_giveUp) x9 T0 M0 n0 T_23 M_23 n_23 → T_23 o0 = some (0, 6, 0) → 0 ≤ i2_23.toInt → 2147483647 - i2_23.toInt < (k : Int) → mj_V g l kY_Fund_giveUp (d + 3) 48 [(2, .int i2_23), (0, .ref o0), (1, .int x1)] [] M_23 n_23 0 0 (tm_Q tm_FT (tm_in w_Fund_giveUp) x9 T0 M0 n0 (fun r _ _ => r = none)) := by
          intro k23
          induction k23 with
          | zero =>
            intro i2_23 T_23 M_23 n_23 I_23 h_q0_23 iv0_23 hk23
            have := mz_hi i2_23
            omega
          | succ k23 ih23 =>
            intro i2_23 T_23 M_23 n_23 I_23 h_q0_23 iv0_23 hk23
            refine mv_iload_n d_Fund_giveUp_48 rfl rfl ?_
            refine mv_aload_n d_Fund_giveUp_49 rfl rfl ?_
            obtain ⟨a25, q24, t_a25⟩ := tm_atO I_23 h_q0_23 (k := 11) rfl
            refine tr_getK q24 d_Fund_giveUp_50 f_Fund_24_6 ?_
            obtain ⟨m27, n28, e29, N30, f31, h26⟩ := I_23.1 _ _ t_a25
            have := h26.2.1
            have : n28.toInt ≤ 72 := h26.2.2.1
            refine mv_callV_s (kc' := 0) (ks' := 0) [] [.ref a25, .int i2_23] d_Fund_giveUp_53 lV_Fund_61 h26.1 rfl (tc_L_size (d := (d + 2)) h26.1) rfl (Nat.le_of_ble_eq_true rfl) (Nat.le_of_ble_eq_true rfl) (Nat.le_of_ble_eq_true rfl) rfl ?_
            have := mz_hi i2_23
            have := mz_hi n28
            refine mv_icmp_geZ (tgt := 80) (a := i2_23.toInt) (b := n28.toInt) d_Fund_giveUp_56 (by decide) rfl rfl (fun b32 => ?_) (fun b32 => ?_)
            · exact mv_vret d_Fund_giveUp_80 rfl ⟨_, I_23, rfl⟩
            · refine mv_aload_n d_Fund_giveUp_59 rfl rfl ?_
              refine tr_getK (k := 11) q24 d_Fund_giveUp_60 f_Fund_24_6 ?_
              refine mv_iload_n d_Fund_giveUp_63 rfl rfl ?_
              obtain ⟨u33e, u33i, a34, u33f, u33t⟩ := tm_el (i := i2_23) h26 (by omega) (by omega)
              have t_a34 : T_23 a34 = some (0, 3, 0) := u33t
              refine mv_callV_s (kc' := 0) (ks' := 0) [.int i2_23] [.int i2_23, .ref a25] d_Fund_giveUp_64 lV_Fund_65 h26.1 rfl (tc_L_get (d := d) h26.1 u33e (by omega) (by omega) u33i u33f) rfl (Nat.le_of_ble_eq_true rfl) (Nat.le_of_ble_eq_true rfl) (Nat.le_of_ble_eq_true rfl) rfl ?_
              obtain ⟨_, b35, -⟩ := I_23.1 _ _ t_a34
              refine mv_castS (T9 := kF_End) (N := 4) d_Fund_giveUp_67 (mj_in1 (List.mem_of_getElem? (i := 751) (by decide +kernel)) rfl) b35 rfl ?_
              refine mv_iconst (v := 2) d_Fund_giveUp_70 (by decide) ?_
              refine tr_putK tm_okF I_23 t_a34 (k := 1) rfl ⟨_, rfl⟩ (Or.inl (by decide)) d_Fund_giveUp_71 p_Fund_80_3 rfl rfl (fun M36 I37 q38 K39 => ?_)
              refine mv_iinc (v := (i2_23 + 1)) (lv' := [(2, .int (i2_23 + 1)), (0, .ref o0), (1, .int x1)]) d_Fund_giveUp_74 rfl rfl (by decide) rfl ?_
              refine mv_goto (tgt := 48) d_Fund_giveUp_77 (by decide) ?_
              have b40 : (i2_23 + 1).toInt = i2_23.toInt + 1 := mz_addn 1 1 (by decide) (by have := mz_lo i2_23; omega) (by have := mz_hi i2_23; omega)
              exact ih23 (i2_23 + 1) T_23 M36 n_23 I37 h_q0_23 (by first | omega | decide) (by omega)
        exact L48_23 4294967296 0 T_21 M_21 n_21 I_21 h_q0_21 (by first | omega | decide) (by show (2147483647 : Int) - _ < _; decide)
      · refine mv_aload_n d_Fund_giveUp_33 rfl rfl ?_
        obtain ⟨a42, q41, t_a42⟩ := tm_atR I_21 h_q0_21 (k := 13) rfl
        refine tr_getK q41 d_Fund_giveUp_34 f_Fund_32_6 ?_
        refine mv_iload_n d_Fund_giveUp_37 rfl rfl ?_
        refine mv_iconst (v := 0) d_Fund_giveUp_38 (by decide) ?_
        refine tr_zastK tm_okF I_21 t_a42 (by decide) (Or.inl (by decide)) d_Fund_giveUp_39 (vp_in_iff.mpr (by omega)) (fun M43 I44 K45 => ?_)
        refine mv_iinc (v := (i2_21 + 1)) (lv' := [(2, .int (i2_21 + 1)), (0, .ref o0), (1, .int x1)]) d_Fund_giveUp_40 rfl rfl (by decide) rfl ?_
        refine mv_goto (tgt := 27) d_Fund_giveUp_43 (by decide) ?_
        have b46 : (i2_21 + 1).toInt = i2_21.toInt + 1 := mz_addn 1 1 (by decide) (by have := mz_lo i2_21; omega) (by have := mz_hi i2_21; omega)
        exact ih21 (i2_21 + 1) T_21 M43 n_21 I44 h_q0_21 (by first | omega | decide) (by omega)
  exact L27_21 4294967296 0 T0 M17 n0 I18 h_o0 (by first | omega | decide) (by show (2147483647 : Int) - _ < _; decide)
abbrev kY_Fund_hasEnd : mj_Y := (⟨"TrustDesk$Fund", "hasEnd", "(J)Z"⟩, prog_7_method_7_code, 4, (Option.some Jvm.ClassFile.FieldType.boolean))
theorem d_Fund_hasEnd_0 : decode kY_Fund_hasEnd.2.1 0 = .ok (.iconst 0, 1) := by decide +kernel
theorem d_Fund_hasEnd_1 : decode kY_Fund_hasEnd.2.1 1 = .ok (.istore_n 3, 1) := by decide +kernel
theorem d_Fund_hasEnd_2 : decode kY_Fund_hasEnd.2.1 2 = .ok (.iload_n 3, 1) := by decide +kernel
theorem d_Fund_hasEnd_3 : decode kY_Fund_hasEnd.2.1 3 = .ok (.aload_n 0, 1) := by decide +kernel
theorem d_Fund_hasEnd_4 : decode kY_Fund_hasEnd.2.1 4 = .ok (.getfield 24, 3) := by decide +kernel
theorem d_Fund_hasEnd_7 : decode kY_Fund_hasEnd.2.1 7 = .ok (.invokevirtual 61, 3) := by decide +kernel
theorem d_Fund_hasEnd_10 : decode kY_Fund_hasEnd.2.1 10 = .ok (.if_icmp .ge 33, 3) := by decide +kernel
theorem d_Fund_hasEnd_43 : decode kY_Fund_hasEnd.2.1 43 = .ok (.iconst 0, 1) := by decide +kernel
theorem d_Fund_hasEnd_44 : decode kY_Fund_hasEnd.2.1 44 = .ok (.ireturn, 1) := by decide +kernel
theorem d_Fund_hasEnd_13 : decode kY_Fund_hasEnd.2.1 13 = .ok (.aload_n 0, 1) := by decide +kernel
theorem d_Fund_hasEnd_14 : decode kY_Fund_hasEnd.2.1 14 = .ok (.getfield 24, 3) := by decide +kernel
theorem d_Fund_hasEnd_17 : decode kY_Fund_hasEnd.2.1 17 = .ok (.iload_n 3, 1) := by decide +kernel
theorem d_Fund_hasEnd_18 : decode kY_Fund_hasEnd.2.1 18 = .ok (.invokevirtual 65, 3) := by decide +kernel
theorem d_Fund_hasEnd_21 : decode kY_Fund_hasEnd.2.1 21 = .ok (.checkcast 69, 3) := by decide +kernel
theorem d_Fund_hasEnd_24 : decode kY_Fund_hasEnd.2.1 24 = .ok (.getfield 71, 3) := by decide +kernel
theorem f_Fund_71_3 : mj_fl "TrustDesk$Fund" 71 3 0 := ⟨kR_End, kF_End, 4, "TrustDesk$End", rfl, kg_3, by decide, (mj_in1 (List.mem_of_getElem? (i := 786) (by decide +kernel)) rfl), Or.inl rfl⟩
theorem d_Fund_hasEnd_27 : decode kY_Fund_hasEnd.2.1 27 = .ok (.getfield 75, 3) := by decide +kernel
theorem f_Fund_75_4 : mj_fl "TrustDesk$Fund" 75 4 0 := ⟨kR_EndText, kF_EndText, 5, "TrustDesk$EndText", rfl, kg_4, by decide, (mj_in1 (List.mem_of_getElem? (i := 759) (by decide +kernel)) rfl), Or.inl rfl⟩
theorem d_Fund_hasEnd_30 : decode kY_Fund_hasEnd.2.1 30 = .ok (.lload_n 1, 1) := by decide +kernel
theorem d_Fund_hasEnd_31 : decode kY_Fund_hasEnd.2.1 31 = .ok (.lcmp, 1) := by decide +kernel
theorem d_Fund_hasEnd_32 : decode kY_Fund_hasEnd.2.1 32 = .ok (.ifCond .ne 5, 3) := by decide +kernel
theorem d_Fund_hasEnd_37 : decode kY_Fund_hasEnd.2.1 37 = .ok (.iinc 3 1, 3) := by decide +kernel
theorem d_Fund_hasEnd_40 : decode kY_Fund_hasEnd.2.1 40 = .ok (.goto (-38), 3) := by decide +kernel
theorem d_Fund_hasEnd_35 : decode kY_Fund_hasEnd.2.1 35 = .ok (.iconst 1, 1) := by decide +kernel
theorem d_Fund_hasEnd_36 : decode kY_Fund_hasEnd.2.1 36 = .ok (.ireturn, 1) := by decide +kernel
def w_Fund_hasEnd : List Nat := []
theorem tc_Fund_hasEnd {g : mj_G} {l : Launch} {d : Nat} {T0 : tm_H} {M0 : mj_M} {n0 x9 : Nat} {o0 : Nat} {x1 : Int64} (h_o0 : T0 o0 = some (0, 6, 0)) (I0 : tm_I tm_FT (tm_in w_Fund_hasEnd) x9 T0 M0 n0 T0 M0 n0) : mj_Met g l kY_Fund_hasEnd (d + 3) [.ref o0, .long x1] M0 n0 0 0 (tm_Q tm_FT (tm_in w_Fund_hasEnd) x9 T0 M0 n0 (fun r _ _ => ∃ v : Int32, r = some (.int v) ∧ 0 ≤ v.toInt ∧ v.toInt ≤ 1)) := by
  refine mj_enter (by decide) (Nat.le_of_ble_eq_true rfl) ?_
  refine mv_iconst (v := 0) d_Fund_hasEnd_0 (by decide) ?_
  refine mv_istore_n (lv' := [(3, .int 0), (0, .ref o0), (1, .long x1)]) d_Fund_hasEnd_1 rfl (by decide) rfl ?_
  have L2_1 : ∀ (k : Nat) (i3_1 : Int32) (T_1 : tm_H) (M_1 : mj_M) (n_1 : Nat), tm_I tm_FT (tm_in w_Fund_hasEnd) x9 T0 M0 n0 T_1 M_1 n_1 → T_1 o0 = some (0, 6, 0) → 0 ≤ i3_1.toInt → 2147483647 - i3_1.toInt < (k : Int) → mj_V g l kY_Fund_hasEnd (d + 3) 2 [(3, .int i3_1), (0, .ref o0), (1, .long x1)] [] M_1 n_1 0 0 (tm_Q tm_FT (tm_in w_Fund_hasEnd) x9 T0 M0 n0 (fun r _ _ => ∃ v : Int32, r = some (.int v) ∧ 0 ≤ v.toInt ∧ v.toInt ≤ 1)) := by
    intro k1
    induction k1 with
    | zero =>
      intro i3_1 T_1 M_1 n_1 I_1 h_q0_1 iv0_1 hk1
      have := mz_hi i3_1
      omega
    | succ k1 ih1 =>
      intro i3_1 T_1 M_1 n_1 I_1 h_q0_1 iv0_1 hk1
      refine mv_iload_n d_Fund_hasEnd_2 rfl rfl ?_
      refine mv_aload_n d_Fund_hasEnd_3 rfl rfl ?_
      obtain ⟨a3, q2, t_a3⟩ := tm_atO I_1 h_q0_1 (k := 11) rfl
      refine tr_getK q2 d_Fund_hasEnd_4 f_Fund_24_6 ?_
      obtain ⟨m5, n6, e7, N8, f9, h4⟩ := I_1.1 _ _ t_a3
      have := h4.2.1
      have : n6.toInt ≤ 72 := h4.2.2.1
      refine mv_callV_s (kc' := 0) (ks' := 0) [] [.ref a3, .int i3_1] d_Fund_hasEnd_7 lV_Fund_61 h4.1 rfl (tc_L_size (d := (d + 2)) h4.1) rfl (Nat.le_of_ble_eq_true rfl) (Nat.le_of_ble_eq_true rfl) (Nat.le_of_ble_eq_true rfl) rfl ?_
      have := mz_hi i3_1
      have := mz_hi n6
      refine mv_icmp_geZ (tgt := 43) (a := i3_1.toInt) (b := n6.toInt) d_Fund_hasEnd_10 (by decide) rfl rfl (fun b10 => ?_) (fun b10 => ?_)
      · refine mv_iconst (v := 0) d_Fund_hasEnd_43 (by decide) ?_
        exact mv_iret d_Fund_hasEnd_44 rfl (by decide) ⟨_, I_1, _, rfl, by decide, by decide⟩
      · refine mv_aload_n d_Fund_hasEnd_13 rfl rfl ?_
        refine tr_getK (k := 11) q2 d_Fund_hasEnd_14 f_Fund_24_6 ?_
        refine mv_iload_n d_Fund_hasEnd_17 rfl rfl ?_
        obtain ⟨u11e, u11i, a12, u11f, u11t⟩ := tm_el (i := i3_1) h4 (by omega) (by omega)
        have t_a12 : T_1 a12 = some (0, 3, 0) := u11t
        refine mv_callV_s (kc' := 0) (ks' := 0) [.int i3_1] [.int i3_1, .ref a3] d_Fund_hasEnd_18 lV_Fund_65 h4.1 rfl (tc_L_get (d := d) h4.1 u11e (by omega) (by omega) u11i u11f) rfl (Nat.le_of_ble_eq_true rfl) (Nat.le_of_ble_eq_true rfl) (Nat.le_of_ble_eq_true rfl) rfl ?_
        obtain ⟨_, b13, -⟩ := I_1.1 _ _ t_a12
        refine mv_castS (T9 := kF_End) (N := 4) d_Fund_hasEnd_21 (mj_in1 (List.mem_of_getElem? (i := 751) (by decide +kernel)) rfl) b13 rfl ?_
        obtain ⟨a15, q14, t_a15⟩ := tm_atR I_1 t_a12 (k := 0) rfl
        refine tr_getK q14 d_Fund_hasEnd_24 f_Fund_71_3 ?_
        obtain ⟨v17, q16⟩ := tm_atL I_1 t_a15 (k := 0) rfl
        refine tr_getK q16 d_Fund_hasEnd_27 f_Fund_75_4 ?_
        refine mv_lload_n d_Fund_hasEnd_30 rfl rfl ?_
        refine mv_lneZ (tgt := 37) (a := v17.toInt) (b := x1.toInt) d_Fund_hasEnd_31 d_Fund_hasEnd_32 (by decide) rfl rfl (fun b18 => ?_) (fun b18 => ?_)
        · refine mv_iinc (v := (i3_1 + 1)) (lv' := [(3, .int (i3_1 + 1)), (0, .ref o0), (1, .long x1)]) d_Fund_hasEnd_37 rfl rfl (by decide) rfl ?_
          refine mv_goto (tgt := 2) d_Fund_hasEnd_40 (by decide) ?_
          have b19 : (i3_1 + 1).toInt = i3_1.toInt + 1 := mz_addn 1 1 (by decide) (by have := mz_lo i3_1; omega) (by have := mz_hi i3_1; omega)
          exact ih1 (i3_1 + 1) T_1 M_1 n_1 I_1 h_q0_1 (by first | omega | decide) (by omega)
        · refine mv_iconst (v := 1) d_Fund_hasEnd_35 (by decide) ?_
          exact mv_iret d_Fund_hasEnd_36 rfl (by decide) ⟨_, I_1, _, rfl, by decide, by decide⟩
  exact L2_1 4294967296 0 T0 M0 n0 I0 h_o0 (by first | omega | decide) (by show (2147483647 : Int) - _ < _; decide)
abbrev kY_Grouping_bestGroupOf : mj_Y := (⟨"TrustDesk$Grouping", "bestGroupOf", "(I)I"⟩, prog_8_method_4_code, 2, (Option.some Jvm.ClassFile.FieldType.int))
theorem d_Grouping_bestGroupOf_0 : decode kY_Grouping_bestGroupOf.2.1 0 = .ok (.iload_n 1, 1) := by decide +kernel
theorem d_Grouping_bestGroupOf_1 : decode kY_Grouping_bestGroupOf.2.1 1 = .ok (.ifCond .lt 26, 3) := by decide +kernel
theorem d_Grouping_bestGroupOf_27 : decode kY_Grouping_bestGroupOf.2.1 27 = .ok (.iconst (-1), 1) := by decide +kernel
theorem d_Grouping_bestGroupOf_28 : decode kY_Grouping_bestGroupOf.2.1 28 = .ok (.ireturn, 1) := by decide +kernel
theorem d_Grouping_bestGroupOf_4 : decode kY_Grouping_bestGroupOf.2.1 4 = .ok (.iload_n 1, 1) := by decide +kernel
theorem d_Grouping_bestGroupOf_5 : decode kY_Grouping_bestGroupOf.2.1 5 = .ok (.aload_n 0, 1) := by decide +kernel
theorem d_Grouping_bestGroupOf_6 : decode kY_Grouping_bestGroupOf.2.1 6 = .ok (.getfield 44, 3) := by decide +kernel
theorem f_Grouping_44_7 : mj_fl "TrustDesk$Grouping" 44 7 2 := ⟨kR_Grouping, kF_Grouping, 14, "TrustDesk$Grouping", rfl, kg_7, by decide, (mj_in1 (List.mem_of_getElem? (i := 164) (by decide +kernel)) rfl), Or.inl rfl⟩
theorem d_Grouping_bestGroupOf_9 : decode kY_Grouping_bestGroupOf.2.1 9 = .ok (.if_icmp .ge 18, 3) := by decide +kernel
theorem d_Grouping_bestGroupOf_12 : decode kY_Grouping_bestGroupOf.2.1 12 = .ok (.iload_n 1, 1) := by decide +kernel
theorem d_Grouping_bestGroupOf_13 : decode kY_Grouping_bestGroupOf.2.1 13 = .ok (.bipush 8, 2) := by decide +kernel
theorem d_Grouping_bestGroupOf_15 : decode kY_Grouping_bestGroupOf.2.1 15 = .ok (.if_icmp .ge 12, 3) := by decide +kernel
theorem d_Grouping_bestGroupOf_18 : decode kY_Grouping_bestGroupOf.2.1 18 = .ok (.aload_n 0, 1) := by decide +kernel
theorem d_Grouping_bestGroupOf_19 : decode kY_Grouping_bestGroupOf.2.1 19 = .ok (.getfield 25, 3) := by decide +kernel
theorem f_Grouping_25_7 : mj_fl "TrustDesk$Grouping" 25 7 8 := ⟨kR_Grouping, kF_Grouping, 14, "TrustDesk$Grouping", rfl, kg_7, by decide, (mj_in1 (List.mem_of_getElem? (i := 170) (by decide +kernel)) rfl), Or.inl rfl⟩
theorem d_Grouping_bestGroupOf_22 : decode kY_Grouping_bestGroupOf.2.1 22 = .ok (.iload_n 1, 1) := by decide +kernel
theorem d_Grouping_bestGroupOf_23 : decode kY_Grouping_bestGroupOf.2.1 23 = .ok (.iaload, 1) := by decide +kernel
theorem d_Grouping_bestGroupOf_24 : decode kY_Grouping_bestGroupOf.2.1 24 = .ok (.goto 4, 3) := by decide +kernel
def w_Grouping_bestGroupOf : List Nat := []
theorem tc_Grouping_bestGroupOf {g : mj_G} {l : Launch} {d : Nat} {T0 : tm_H} {M0 : mj_M} {n0 x9 : Nat} {o0 : Nat} {x1 : Int32} (h_o0 : T0 o0 = some (0, 7, 0)) (I0 : tm_I tm_FT (tm_in w_Grouping_bestGroupOf) x9 T0 M0 n0 T0 M0 n0) : mj_Met g l kY_Grouping_bestGroupOf d [.ref o0, .int x1] M0 n0 0 0 (tm_Q tm_FT (tm_in w_Grouping_bestGroupOf) x9 T0 M0 n0 (fun r _ _ => ∃ v : Int32, r = some (.int v))) := by
  refine mj_enter (by decide) (Nat.le_of_ble_eq_true rfl) ?_
  refine mv_iload_n d_Grouping_bestGroupOf_0 rfl rfl ?_
  have := mz_hi x1
  refine mv_if_ltZ (tgt := 27) (a := x1.toInt) d_Grouping_bestGroupOf_1 (by decide) rfl (fun b1 => ?_) (fun b1 => ?_)
  · refine mv_iconst (v := (-1)) d_Grouping_bestGroupOf_27 (by decide) ?_
    exact mv_iret d_Grouping_bestGroupOf_28 rfl (by first | rfl | decide) ⟨_, I0, _, rfl⟩
  · refine mv_iload_n d_Grouping_bestGroupOf_4 rfl rfl ?_
    refine mv_aload_n d_Grouping_bestGroupOf_5 rfl rfl ?_
    obtain ⟨v3, q2⟩ := tm_atI I0 h_o0 (k := 2) rfl
    refine tr_getK q2 d_Grouping_bestGroupOf_6 f_Grouping_44_7 ?_
    have := mz_hi x1
    have := mz_hi v3
    refine mv_icmp_geZ (tgt := 27) (a := x1.toInt) (b := v3.toInt) d_Grouping_bestGroupOf_9 (by decide) rfl rfl (fun b4 => ?_) (fun b4 => ?_)
    · refine mv_iconst (v := (-1)) d_Grouping_bestGroupOf_27 (by decide) ?_
      exact mv_iret d_Grouping_bestGroupOf_28 rfl (by first | rfl | decide) ⟨_, I0, _, rfl⟩
    · refine mv_iload_n d_Grouping_bestGroupOf_12 rfl rfl ?_
      refine mv_bipush (v := 8) d_Grouping_bestGroupOf_13 (by decide) ?_
      have := mz_hi x1
      refine mv_icmp_geZ (tgt := 27) (a := x1.toInt) (b := 8) d_Grouping_bestGroupOf_15 (by decide) rfl (by decide) (fun b5 => ?_) (fun b5 => ?_)
      · refine mv_iconst (v := (-1)) d_Grouping_bestGroupOf_27 (by decide) ?_
        exact mv_iret d_Grouping_bestGroupOf_28 rfl (by first | rfl | decide) ⟨_, I0, _, rfl⟩
      · refine mv_aload_n d_Grouping_bestGroupOf_18 rfl rfl ?_
        obtain ⟨a7, q6, t_a7⟩ := tm_atR I0 h_o0 (k := 8) rfl
        refine tr_getK q6 d_Grouping_bestGroupOf_19 f_Grouping_25_7 ?_
        refine mv_iload_n d_Grouping_bestGroupOf_22 rfl rfl ?_
        refine tr_iald I0 t_a7 (by decide) d_Grouping_bestGroupOf_23 (vp_in_iff.mpr (by omega)) (fun v8 => ?_)
        refine mv_goto (tgt := 28) d_Grouping_bestGroupOf_24 (by decide) ?_
        exact mv_iret d_Grouping_bestGroupOf_28 rfl (by first | rfl | decide) ⟨_, I0, _, rfl⟩
abbrev kY_Grouping_clear : mj_Y := (⟨"TrustDesk$Grouping", "clear", "(I)V"⟩, prog_8_method_2_code, 3, (Option.none : Option Jvm.ClassFile.FieldType))
theorem d_Grouping_clear_0 : decode kY_Grouping_clear.2.1 0 = .ok (.aload_n 0, 1) := by decide +kernel
theorem d_Grouping_clear_1 : decode kY_Grouping_clear.2.1 1 = .ok (.iload_n 1, 1) := by decide +kernel
theorem d_Grouping_clear_2 : decode kY_Grouping_clear.2.1 2 = .ok (.putfield 40, 3) := by decide +kernel
theorem p_Grouping_40_7 : mj_fp "TrustDesk$Grouping" 40 7 1 (kt_Grouping 1) false := ⟨kR_Grouping, kF_Grouping, 14, "TrustDesk$Grouping", kt_Grouping, rfl, kg_7, by decide, (mj_in1 (List.mem_of_getElem? (i := 163) (by decide +kernel)) rfl), Or.inl rfl, kto_Grouping, kn_Grouping, rfl, rfl, fun h => by cases h⟩
theorem d_Grouping_clear_5 : decode kY_Grouping_clear.2.1 5 = .ok (.aload_n 0, 1) := by decide +kernel
theorem d_Grouping_clear_6 : decode kY_Grouping_clear.2.1 6 = .ok (.iconst 0, 1) := by decide +kernel
theorem d_Grouping_clear_7 : decode kY_Grouping_clear.2.1 7 = .ok (.putfield 44, 3) := by decide +kernel
theorem p_Grouping_44_7 : mj_fp "TrustDesk$Grouping" 44 7 2 (kt_Grouping 2) false := ⟨kR_Grouping, kF_Grouping, 14, "TrustDesk$Grouping", kt_Grouping, rfl, kg_7, by decide, (mj_in1 (List.mem_of_getElem? (i := 164) (by decide +kernel)) rfl), Or.inl rfl, kto_Grouping, kn_Grouping, rfl, rfl, fun h => by cases h⟩
theorem d_Grouping_clear_10 : decode kY_Grouping_clear.2.1 10 = .ok (.aload_n 0, 1) := by decide +kernel
theorem d_Grouping_clear_11 : decode kY_Grouping_clear.2.1 11 = .ok (.iconst 0, 1) := by decide +kernel
theorem d_Grouping_clear_12 : decode kY_Grouping_clear.2.1 12 = .ok (.putfield 47, 3) := by decide +kernel
theorem p_Grouping_47_7 : mj_fp "TrustDesk$Grouping" 47 7 3 (kt_Grouping 3) false := ⟨kR_Grouping, kF_Grouping, 14, "TrustDesk$Grouping", kt_Grouping, rfl, kg_7, by decide, (mj_in1 (List.mem_of_getElem? (i := 165) (by decide +kernel)) rfl), Or.inl rfl, kto_Grouping, kn_Grouping, rfl, rfl, fun h => by cases h⟩
theorem d_Grouping_clear_15 : decode kY_Grouping_clear.2.1 15 = .ok (.aload_n 0, 1) := by decide +kernel
theorem d_Grouping_clear_16 : decode kY_Grouping_clear.2.1 16 = .ok (.lconst 0, 1) := by decide +kernel
theorem d_Grouping_clear_17 : decode kY_Grouping_clear.2.1 17 = .ok (.putfield 50, 3) := by decide +kernel
theorem p_Grouping_50_7 : mj_fp "TrustDesk$Grouping" 50 7 0 (kt_Grouping 0) false := ⟨kR_Grouping, kF_Grouping, 14, "TrustDesk$Grouping", kt_Grouping, rfl, kg_7, by decide, (mj_in1 (List.mem_of_getElem? (i := 161) (by decide +kernel)) rfl), Or.inl rfl, kto_Grouping, kn_Grouping, rfl, rfl, fun h => by cases h⟩
theorem d_Grouping_clear_20 : decode kY_Grouping_clear.2.1 20 = .ok (.iconst 0, 1) := by decide +kernel
theorem d_Grouping_clear_21 : decode kY_Grouping_clear.2.1 21 = .ok (.istore_n 2, 1) := by decide +kernel
theorem d_Grouping_clear_22 : decode kY_Grouping_clear.2.1 22 = .ok (.iload_n 2, 1) := by decide +kernel
theorem d_Grouping_clear_23 : decode kY_Grouping_clear.2.1 23 = .ok (.bipush 8, 2) := by decide +kernel
theorem d_Grouping_clear_25 : decode kY_Grouping_clear.2.1 25 = .ok (.if_icmp .ge 32, 3) := by decide +kernel
theorem d_Grouping_clear_57 : decode kY_Grouping_clear.2.1 57 = .ok (.return_, 1) := by decide +kernel
theorem d_Grouping_clear_28 : decode kY_Grouping_clear.2.1 28 = .ok (.aload_n 0, 1) := by decide +kernel
theorem d_Grouping_clear_29 : decode kY_Grouping_clear.2.1 29 = .ok (.getfield 28, 3) := by decide +kernel
theorem f_Grouping_28_7 : mj_fl "TrustDesk$Grouping" 28 7 9 := ⟨kR_Grouping, kF_Grouping, 14, "TrustDesk$Grouping", rfl, kg_7, by decide, (mj_in1 (List.mem_of_getElem? (i := 171) (by decide +kernel)) rfl), Or.inl rfl⟩
theorem d_Grouping_clear_32 : decode kY_Grouping_clear.2.1 32 = .ok (.iload_n 2, 1) := by decide +kernel
theorem d_Grouping_clear_33 : decode kY_Grouping_clear.2.1 33 = .ok (.iconst 0, 1) := by decide +kernel
theorem d_Grouping_clear_34 : decode kY_Grouping_clear.2.1 34 = .ok (.iastore, 1) := by decide +kernel
theorem d_Grouping_clear_35 : decode kY_Grouping_clear.2.1 35 = .ok (.aload_n 0, 1) := by decide +kernel
theorem d_Grouping_clear_36 : decode kY_Grouping_clear.2.1 36 = .ok (.getfield 31, 3) := by decide +kernel
theorem f_Grouping_31_7 : mj_fl "TrustDesk$Grouping" 31 7 10 := ⟨kR_Grouping, kF_Grouping, 14, "TrustDesk$Grouping", rfl, kg_7, by decide, (mj_in1 (List.mem_of_getElem? (i := 172) (by decide +kernel)) rfl), Or.inl rfl⟩
theorem d_Grouping_clear_39 : decode kY_Grouping_clear.2.1 39 = .ok (.iload_n 2, 1) := by decide +kernel
theorem d_Grouping_clear_40 : decode kY_Grouping_clear.2.1 40 = .ok (.sipush 255, 3) := by decide +kernel
theorem d_Grouping_clear_43 : decode kY_Grouping_clear.2.1 43 = .ok (.iastore, 1) := by decide +kernel
theorem d_Grouping_clear_44 : decode kY_Grouping_clear.2.1 44 = .ok (.aload_n 0, 1) := by decide +kernel
theorem d_Grouping_clear_45 : decode kY_Grouping_clear.2.1 45 = .ok (.getfield 34, 3) := by decide +kernel
theorem f_Grouping_34_7 : mj_fl "TrustDesk$Grouping" 34 7 11 := ⟨kR_Grouping, kF_Grouping, 14, "TrustDesk$Grouping", rfl, kg_7, by decide, (mj_in1 (List.mem_of_getElem? (i := 173) (by decide +kernel)) rfl), Or.inl rfl⟩
theorem d_Grouping_clear_48 : decode kY_Grouping_clear.2.1 48 = .ok (.iload_n 2, 1) := by decide +kernel
theorem d_Grouping_clear_49 : decode kY_Grouping_clear.2.1 49 = .ok (.lconst 0, 1) := by decide +kernel
theorem d_Grouping_clear_50 : decode kY_Grouping_clear.2.1 50 = .ok (.lastore, 1) := by decide +kernel
theorem d_Grouping_clear_51 : decode kY_Grouping_clear.2.1 51 = .ok (.iinc 2 1, 3) := by decide +kernel
theorem d_Grouping_clear_54 : decode kY_Grouping_clear.2.1 54 = .ok (.goto (-32), 3) := by decide +kernel
def w_Grouping_clear : List Nat := [700, 701, 702, 703, 759, 760, 761]
theorem tc_Grouping_clear {g : mj_G} {l : Launch} {d : Nat} {T0 : tm_H} {M0 : mj_M} {n0 x9 : Nat} {o0 : Nat} {x1 : Int32} (h_o0 : T0 o0 = some (0, 7, 0)) (I0 : tm_I tm_FT (tm_in w_Grouping_clear) x9 T0 M0 n0 T0 M0 n0) : mj_Met g l kY_Grouping_clear d [.ref o0, .int x1] M0 n0 0 0 (tm_Q tm_FT (tm_in w_Grouping_clear) x9 T0 M0 n0 (fun r _ _ => r = none)) := by
  refine mj_enter (by decide) (Nat.le_of_ble_eq_true rfl) ?_
  refine mv_aload_n d_Grouping_clear_0 rfl rfl ?_
  refine mv_iload_n d_Grouping_clear_1 rfl rfl ?_
  refine tr_putK tm_okF I0 h_o0 (k := 1) rfl ⟨_, rfl⟩ (Or.inl (by decide)) d_Grouping_clear_2 p_Grouping_40_7 rfl rfl (fun M1 I2 q3 K4 => ?_)
  refine mv_aload_n d_Grouping_clear_5 rfl rfl ?_
  refine mv_iconst (v := 0) d_Grouping_clear_6 (by decide) ?_
  refine tr_putK tm_okF I2 h_o0 (k := 2) rfl ⟨_, rfl⟩ (Or.inl (by decide)) d_Grouping_clear_7 p_Grouping_44_7 rfl rfl (fun M5 I6 q7 K8 => ?_)
  refine mv_aload_n d_Grouping_clear_10 rfl rfl ?_
  refine mv_iconst (v := 0) d_Grouping_clear_11 (by decide) ?_
  refine tr_putK tm_okF I6 h_o0 (k := 3) rfl ⟨_, rfl⟩ (Or.inl (by decide)) d_Grouping_clear_12 p_Grouping_47_7 rfl rfl (fun M9 I10 q11 K12 => ?_)
  refine mv_aload_n d_Grouping_clear_15 rfl rfl ?_
  refine mv_lconst (v := 0) d_Grouping_clear_16 (by decide) ?_
  refine tr_putK tm_okF I10 h_o0 (k := 0) rfl ⟨_, rfl⟩ (Or.inl (by decide)) d_Grouping_clear_17 p_Grouping_50_7 rfl rfl (fun M13 I14 q15 K16 => ?_)
  refine mv_iconst (v := 0) d_Grouping_clear_20 (by decide) ?_
  refine mv_istore_n (lv' := [(2, .int 0), (0, .ref o0), (1, .int x1)]) d_Grouping_clear_21 rfl (by decide) rfl ?_
  have L22_17 : ∀ (k : Nat) (i2_17 : Int32) (T_17 : tm_H) (M_17 : mj_M) (n_17 : Nat), tm_I tm_FT (tm_in w_Grouping_clear) x9 T0 M0 n0 T_17 M_17 n_17 → T_17 o0 = some (0, 7, 0) → 0 ≤ i2_17.toInt → 2147483647 - i2_17.toInt < (k : Int) → mj_V g l kY_Grouping_clear d 22 [(2, .int i2_17), (0, .ref o0), (1, .int x1)] [] M_17 n_17 0 0 (tm_Q tm_FT (tm_in w_Grouping_clear) x9 T0 M0 n0 (fun r _ _ => r = none)) := by
    intro k17
    induction k17 with
    | zero =>
      intro i2_17 T_17 M_17 n_17 I_17 h_q0_17 iv0_17 hk17
      have := mz_hi i2_17
      omega
    | succ k17 ih17 =>
      intro i2_17 T_17 M_17 n_17 I_17 h_q0_17 iv0_17 hk17
      refine mv_iload_n d_Grouping_clear_22 rfl rfl ?_
      refine mv_bipush (v := 8) d_Grouping_clear_23 (by decide) ?_
      have := mz_hi i2_17
      refine mv_icmp_geZ (tgt := 57) (a := i2_17.toInt) (b := 8) d_Grouping_clear_25 (by decide) rfl (by decide) (fun b18 => ?_) (fun b18 => ?_)
      · exact mv_vret d_Grouping_clear_57 rfl ⟨_, I_17, rfl⟩
      · refine mv_aload_n d_Grouping_clear_28 rfl rfl ?_
        obtain ⟨a20, q19, t_a20⟩ := tm_atR I_17 h_q0_17 (k := 9) rfl
        refine tr_getK q19 d_Grouping_clear_29 f_Grouping_28_7 ?_
        refine mv_iload_n d_Grouping_clear_32 rfl rfl ?_
        refine mv_iconst (v := 0) d_Grouping_clear_33 (by decide) ?_
        refine tr_iastK tm_okF I_17 t_a20 (by decide) (Or.inl (by decide)) d_Grouping_clear_34 (vp_in_iff.mpr (by omega)) (fun M21 I22 K23 => ?_)
        refine mv_aload_n d_Grouping_clear_35 rfl rfl ?_
        obtain ⟨a25, q24, t_a25⟩ := tm_atR I22 h_q0_17 (k := 10) rfl
        refine tr_getK q24 d_Grouping_clear_36 f_Grouping_31_7 ?_
        refine mv_iload_n d_Grouping_clear_39 rfl rfl ?_
        refine mv_sipush (v := 255) d_Grouping_clear_40 (by decide) ?_
        refine tr_iastK tm_okF I22 t_a25 (by decide) (Or.inl (by decide)) d_Grouping_clear_43 (vp_in_iff.mpr (by omega)) (fun M26 I27 K28 => ?_)
        refine mv_aload_n d_Grouping_clear_44 rfl rfl ?_
        obtain ⟨a30, q29, t_a30⟩ := tm_atR I27 h_q0_17 (k := 11) rfl
        refine tr_getK q29 d_Grouping_clear_45 f_Grouping_34_7 ?_
        refine mv_iload_n d_Grouping_clear_48 rfl rfl ?_
        refine mv_lconst (v := 0) d_Grouping_clear_49 (by decide) ?_
        refine tr_lastK tm_okF I27 t_a30 (by decide) (Or.inl (by decide)) d_Grouping_clear_50 (vp_in_iff.mpr (by omega)) (fun M31 I32 K33 => ?_)
        refine mv_iinc (v := (i2_17 + 1)) (lv' := [(2, .int (i2_17 + 1)), (0, .ref o0), (1, .int x1)]) d_Grouping_clear_51 rfl rfl (by decide) rfl ?_
        refine mv_goto (tgt := 22) d_Grouping_clear_54 (by decide) ?_
        have b34 : (i2_17 + 1).toInt = i2_17.toInt + 1 := mz_addn 1 1 (by decide) (by have := mz_lo i2_17; omega) (by have := mz_hi i2_17; omega)
        exact ih17 (i2_17 + 1) T_17 M31 n_17 I32 h_q0_17 (by first | omega | decide) (by omega)
  exact L22_17 4294967296 0 T0 M13 n0 I14 h_o0 (by first | omega | decide) (by show (2147483647 : Int) - _ < _; decide)
abbrev kY_Grouping_holdsTogether : mj_Y := (⟨"TrustDesk$Grouping", "holdsTogether", "(I)Z"⟩, prog_8_method_10_code, 2, (Option.some Jvm.ClassFile.FieldType.boolean))
theorem d_Grouping_holdsTogether_0 : decode kY_Grouping_holdsTogether.2.1 0 = .ok (.iload_n 1, 1) := by decide +kernel
theorem d_Grouping_holdsTogether_1 : decode kY_Grouping_holdsTogether.2.1 1 = .ok (.ifCond .lt 39, 3) := by decide +kernel
theorem d_Grouping_holdsTogether_40 : decode kY_Grouping_holdsTogether.2.1 40 = .ok (.iconst 0, 1) := by decide +kernel
theorem d_Grouping_holdsTogether_41 : decode kY_Grouping_holdsTogether.2.1 41 = .ok (.ireturn, 1) := by decide +kernel
theorem d_Grouping_holdsTogether_4 : decode kY_Grouping_holdsTogether.2.1 4 = .ok (.iload_n 1, 1) := by decide +kernel
theorem d_Grouping_holdsTogether_5 : decode kY_Grouping_holdsTogether.2.1 5 = .ok (.bipush 8, 2) := by decide +kernel
theorem d_Grouping_holdsTogether_7 : decode kY_Grouping_holdsTogether.2.1 7 = .ok (.if_icmp .ge 33, 3) := by decide +kernel
theorem d_Grouping_holdsTogether_10 : decode kY_Grouping_holdsTogether.2.1 10 = .ok (.aload_n 0, 1) := by decide +kernel
theorem d_Grouping_holdsTogether_11 : decode kY_Grouping_holdsTogether.2.1 11 = .ok (.getfield 28, 3) := by decide +kernel
theorem d_Grouping_holdsTogether_14 : decode kY_Grouping_holdsTogether.2.1 14 = .ok (.iload_n 1, 1) := by decide +kernel
theorem d_Grouping_holdsTogether_15 : decode kY_Grouping_holdsTogether.2.1 15 = .ok (.iaload, 1) := by decide +kernel
theorem d_Grouping_holdsTogether_16 : decode kY_Grouping_holdsTogether.2.1 16 = .ok (.iconst 1, 1) := by decide +kernel
theorem d_Grouping_holdsTogether_17 : decode kY_Grouping_holdsTogether.2.1 17 = .ok (.if_icmp .le 19, 3) := by decide +kernel
theorem d_Grouping_holdsTogether_36 : decode kY_Grouping_holdsTogether.2.1 36 = .ok (.iconst 1, 1) := by decide +kernel
theorem d_Grouping_holdsTogether_37 : decode kY_Grouping_holdsTogether.2.1 37 = .ok (.goto 4, 3) := by decide +kernel
theorem d_Grouping_holdsTogether_20 : decode kY_Grouping_holdsTogether.2.1 20 = .ok (.aload_n 0, 1) := by decide +kernel
theorem d_Grouping_holdsTogether_21 : decode kY_Grouping_holdsTogether.2.1 21 = .ok (.getfield 31, 3) := by decide +kernel
theorem d_Grouping_holdsTogether_24 : decode kY_Grouping_holdsTogether.2.1 24 = .ok (.iload_n 1, 1) := by decide +kernel
theorem d_Grouping_holdsTogether_25 : decode kY_Grouping_holdsTogether.2.1 25 = .ok (.iaload, 1) := by decide +kernel
theorem d_Grouping_holdsTogether_26 : decode kY_Grouping_holdsTogether.2.1 26 = .ok (.invokestatic 84, 3) := by decide +kernel
theorem lS_Grouping_84 : mj_lS "TrustDesk$Grouping" 84 kY_Integer_bitCount 1 := ⟨⟨(mj_in1 (List.mem_of_getElem? (i := 1264) (by decide +kernel)) rfl), (mj_in1 (List.mem_of_getElem? (i := 26) (by decide +kernel)) rfl), (mj_in1 (List.mem_of_getElem? (i := 1091) (by decide +kernel)) rfl), by decide, rfl, by decide⟩, (mj_in1 (List.mem_of_getElem? (i := 1090) (by decide +kernel)) rfl)⟩
theorem d_Grouping_holdsTogether_29 : decode kY_Grouping_holdsTogether.2.1 29 = .ok (.aload_n 0, 1) := by decide +kernel
theorem d_Grouping_holdsTogether_30 : decode kY_Grouping_holdsTogether.2.1 30 = .ok (.getfield 40, 3) := by decide +kernel
theorem f_Grouping_40_7 : mj_fl "TrustDesk$Grouping" 40 7 1 := ⟨kR_Grouping, kF_Grouping, 14, "TrustDesk$Grouping", rfl, kg_7, by decide, (mj_in1 (List.mem_of_getElem? (i := 163) (by decide +kernel)) rfl), Or.inl rfl⟩
theorem d_Grouping_holdsTogether_33 : decode kY_Grouping_holdsTogether.2.1 33 = .ok (.if_icmp .lt 7, 3) := by decide +kernel
def w_Grouping_holdsTogether : List Nat := []
theorem tc_Grouping_holdsTogether {g : mj_G} {l : Launch} {d : Nat} {T0 : tm_H} {M0 : mj_M} {n0 x9 : Nat} {o0 : Nat} {x1 : Int32} (h_o0 : T0 o0 = some (0, 7, 0)) (I0 : tm_I tm_FT (tm_in w_Grouping_holdsTogether) x9 T0 M0 n0 T0 M0 n0) : mj_Met g l kY_Grouping_holdsTogether (d + 1) [.ref o0, .int x1] M0 n0 0 0 (tm_Q tm_FT (tm_in w_Grouping_holdsTogether) x9 T0 M0 n0 (fun r _ _ => ∃ v : Int32, r = some (.int v) ∧ 0 ≤ v.toInt ∧ v.toInt ≤ 1)) := by
  refine mj_enter (by decide) (Nat.le_of_ble_eq_true rfl) ?_
  refine mv_iload_n d_Grouping_holdsTogether_0 rfl rfl ?_
  have := mz_hi x1
  refine mv_if_ltZ (tgt := 40) (a := x1.toInt) d_Grouping_holdsTogether_1 (by decide) rfl (fun b1 => ?_) (fun b1 => ?_)
  · refine mv_iconst (v := 0) d_Grouping_holdsTogether_40 (by decide) ?_
    exact mv_iret d_Grouping_holdsTogether_41 rfl (by decide) ⟨_, I0, _, rfl, by decide, by decide⟩
  · refine mv_iload_n d_Grouping_holdsTogether_4 rfl rfl ?_
    refine mv_bipush (v := 8) d_Grouping_holdsTogether_5 (by decide) ?_
    have := mz_hi x1
    refine mv_icmp_geZ (tgt := 40) (a := x1.toInt) (b := 8) d_Grouping_holdsTogether_7 (by decide) rfl (by decide) (fun b2 => ?_) (fun b2 => ?_)
    · refine mv_iconst (v := 0) d_Grouping_holdsTogether_40 (by decide) ?_
      exact mv_iret d_Grouping_holdsTogether_41 rfl (by decide) ⟨_, I0, _, rfl, by decide, by decide⟩
    · refine mv_aload_n d_Grouping_holdsTogether_10 rfl rfl ?_
      obtain ⟨a4, q3, t_a4⟩ := tm_atR I0 h_o0 (k := 9) rfl
      refine tr_getK q3 d_Grouping_holdsTogether_11 f_Grouping_28_7 ?_
      refine mv_iload_n d_Grouping_holdsTogether_14 rfl rfl ?_
      refine tr_iald I0 t_a4 (by decide) d_Grouping_holdsTogether_15 (vp_in_iff.mpr (by omega)) (fun v5 => ?_)
      refine mv_iconst (v := 1) d_Grouping_holdsTogether_16 (by decide) ?_
      have := mz_hi v5
      refine mv_icmp_leZ (tgt := 36) (a := v5.toInt) (b := 1) d_Grouping_holdsTogether_17 (by decide) rfl (by decide) (fun b6 => ?_) (fun b6 => ?_)
      · refine mv_iconst (v := 1) d_Grouping_holdsTogether_36 (by decide) ?_
        refine mv_goto (tgt := 41) d_Grouping_holdsTogether_37 (by decide) ?_
        exact mv_iret d_Grouping_holdsTogether_41 rfl (by decide) ⟨_, I0, _, rfl, by decide, by decide⟩
      · refine mv_aload_n d_Grouping_holdsTogether_20 rfl rfl ?_
        obtain ⟨a8, q7, t_a8⟩ := tm_atR I0 h_o0 (k := 10) rfl
        refine tr_getK q7 d_Grouping_holdsTogether_21 f_Grouping_31_7 ?_
        refine mv_iload_n d_Grouping_holdsTogether_24 rfl rfl ?_
        refine tr_iald I0 t_a8 (by decide) d_Grouping_holdsTogether_25 (vp_in_iff.mpr (by omega)) (fun v9 => ?_)
        refine mv_callS (kc' := 0) (ks' := 0) (As := [.int v9]) (st9 := [.int v9]) d_Grouping_holdsTogether_26 lS_Grouping_84 (tc_Integer_bitCount (d := d) (x9 := x9) (x1 := v9)  I0.start) rfl (Nat.le_of_ble_eq_true rfl) (Nat.le_of_ble_eq_true rfl) (Nat.le_of_ble_eq_true rfl) (hst := rfl) (fun b10r M11 n12 b10 => ?_)
        obtain ⟨T13, J14, v16, rfl⟩ := b10
        have I15 := I0.call J14 (tm_sub (by decide)) (Or.inl rfl)
        have t17 := J14.up h_o0
        have q18 := J14.keep h_o0 (by decide) q3
        have t19 := J14.up t_a4
        have q20 := J14.keep h_o0 (by decide) q7
        have t21 := J14.up t_a8
        refine mv_aload_n d_Grouping_holdsTogether_29 rfl rfl ?_
        obtain ⟨v23, q22⟩ := tm_atI I15 t17 (k := 1) rfl
        refine tr_getK q22 d_Grouping_holdsTogether_30 f_Grouping_40_7 ?_
        have := mz_hi v16
        have := mz_hi v23
        refine mv_icmp_ltZ (tgt := 40) (a := v16.toInt) (b := v23.toInt) d_Grouping_holdsTogether_33 (by decide) rfl rfl (fun b24 => ?_) (fun b24 => ?_)
        · refine mv_iconst (v := 0) d_Grouping_holdsTogether_40 (by decide) ?_
          exact mv_iret d_Grouping_holdsTogether_41 rfl (by decide) ⟨_, I15, _, rfl, by decide, by decide⟩
        · refine mv_iconst (v := 1) d_Grouping_holdsTogether_36 (by decide) ?_
          refine mv_goto (tgt := 41) d_Grouping_holdsTogether_37 (by decide) ?_
          exact mv_iret d_Grouping_holdsTogether_41 rfl (by decide) ⟨_, I15, _, rfl, by decide, by decide⟩
abbrev kY_Grouping_idleOf : mj_Y := (⟨"TrustDesk$Grouping", "idleOf", "(I)J"⟩, prog_8_method_11_code, 5, (Option.some Jvm.ClassFile.FieldType.long))
theorem d_Grouping_idleOf_0 : decode kY_Grouping_idleOf.2.1 0 = .ok (.lconst 0, 1) := by decide +kernel
theorem d_Grouping_idleOf_1 : decode kY_Grouping_idleOf.2.1 1 = .ok (.lstore_n 2, 1) := by decide +kernel
theorem d_Grouping_idleOf_2 : decode kY_Grouping_idleOf.2.1 2 = .ok (.iconst 0, 1) := by decide +kernel
theorem d_Grouping_idleOf_3 : decode kY_Grouping_idleOf.2.1 3 = .ok (.istore 4, 2) := by decide +kernel
theorem d_Grouping_idleOf_5 : decode kY_Grouping_idleOf.2.1 5 = .ok (.iload 4, 2) := by decide +kernel
theorem d_Grouping_idleOf_7 : decode kY_Grouping_idleOf.2.1 7 = .ok (.iload_n 1, 1) := by decide +kernel
theorem d_Grouping_idleOf_8 : decode kY_Grouping_idleOf.2.1 8 = .ok (.if_icmp .ge 30, 3) := by decide +kernel
theorem d_Grouping_idleOf_38 : decode kY_Grouping_idleOf.2.1 38 = .ok (.lload_n 2, 1) := by decide +kernel
theorem d_Grouping_idleOf_39 : decode kY_Grouping_idleOf.2.1 39 = .ok (.lreturn, 1) := by decide +kernel
theorem d_Grouping_idleOf_11 : decode kY_Grouping_idleOf.2.1 11 = .ok (.iload 4, 2) := by decide +kernel
theorem d_Grouping_idleOf_13 : decode kY_Grouping_idleOf.2.1 13 = .ok (.bipush 8, 2) := by decide +kernel
theorem d_Grouping_idleOf_15 : decode kY_Grouping_idleOf.2.1 15 = .ok (.if_icmp .ge 23, 3) := by decide +kernel
theorem d_Grouping_idleOf_18 : decode kY_Grouping_idleOf.2.1 18 = .ok (.lload_n 2, 1) := by decide +kernel
theorem d_Grouping_idleOf_19 : decode kY_Grouping_idleOf.2.1 19 = .ok (.lconst 0, 1) := by decide +kernel
theorem d_Grouping_idleOf_20 : decode kY_Grouping_idleOf.2.1 20 = .ok (.aload_n 0, 1) := by decide +kernel
theorem d_Grouping_idleOf_21 : decode kY_Grouping_idleOf.2.1 21 = .ok (.getfield 34, 3) := by decide +kernel
theorem d_Grouping_idleOf_24 : decode kY_Grouping_idleOf.2.1 24 = .ok (.iload 4, 2) := by decide +kernel
theorem d_Grouping_idleOf_26 : decode kY_Grouping_idleOf.2.1 26 = .ok (.laload, 1) := by decide +kernel
theorem d_Grouping_idleOf_27 : decode kY_Grouping_idleOf.2.1 27 = .ok (.invokestatic 68, 3) := by decide +kernel
theorem d_Grouping_idleOf_30 : decode kY_Grouping_idleOf.2.1 30 = .ok (.ladd, 1) := by decide +kernel
theorem d_Grouping_idleOf_31 : decode kY_Grouping_idleOf.2.1 31 = .ok (.lstore_n 2, 1) := by decide +kernel
theorem d_Grouping_idleOf_32 : decode kY_Grouping_idleOf.2.1 32 = .ok (.iinc 4 1, 3) := by decide +kernel
theorem d_Grouping_idleOf_35 : decode kY_Grouping_idleOf.2.1 35 = .ok (.goto (-30), 3) := by decide +kernel
def w_Grouping_idleOf : List Nat := []
theorem tc_Grouping_idleOf {g : mj_G} {l : Launch} {d : Nat} {T0 : tm_H} {M0 : mj_M} {n0 x9 : Nat} {o0 : Nat} {x1 : Int32} (h_o0 : T0 o0 = some (0, 7, 0)) (I0 : tm_I tm_FT (tm_in w_Grouping_idleOf) x9 T0 M0 n0 T0 M0 n0) : mj_Met g l kY_Grouping_idleOf (d + 1) [.ref o0, .int x1] M0 n0 0 0 (tm_Q tm_FT (tm_in w_Grouping_idleOf) x9 T0 M0 n0 (fun r _ _ => ∃ v : Int64, r = some (.long v))) := by
  refine mj_enter (by decide) (Nat.le_of_ble_eq_true rfl) ?_
  refine mv_lconst (v := 0) d_Grouping_idleOf_0 (by decide) ?_
  refine mv_lstore_n (lv' := [(2, .long 0), (0, .ref o0), (1, .int x1)]) d_Grouping_idleOf_1 rfl (by decide) rfl ?_
  refine mv_iconst (v := 0) d_Grouping_idleOf_2 (by decide) ?_
  refine mv_istore (lv' := [(4, .int 0), (2, .long 0), (0, .ref o0), (1, .int x1)]) d_Grouping_idleOf_3 (by decide) rfl ?_
  have L5_1 : ∀ (k : Nat) (i4_1 : Int32) (l2_1 : Int64) (T_1 : tm_H) (M_1 : mj_M) (n_1 : Nat), tm_I tm_FT (tm_in w_Grouping_idleOf) x9 T0 M0 n0 T_1 M_1 n_1 → T_1 o0 = some (0, 7, 0) → 0 ≤ i4_1.toInt → 2147483647 - i4_1.toInt < (k : Int) → mj_V g l kY_Grouping_idleOf (d + 1) 5 [(4, .int i4_1), (2, .long l2_1), (0, .ref o0), (1, .int x1)] [] M_1 n_1 0 0 (tm_Q tm_FT (tm_in w_Grouping_idleOf) x9 T0 M0 n0 (fun r _ _ => ∃ v : Int64, r = some (.long v))) := by
    intro k1
    induction k1 with
    | zero =>
      intro i4_1 l2_1 T_1 M_1 n_1 I_1 h_q0_1 iv0_1 hk1
      have := mz_hi i4_1
      omega
    | succ k1 ih1 =>
      intro i4_1 l2_1 T_1 M_1 n_1 I_1 h_q0_1 iv0_1 hk1
      refine mv_iload d_Grouping_idleOf_5 rfl ?_
      refine mv_iload_n d_Grouping_idleOf_7 rfl rfl ?_
      have := mz_hi i4_1
      have := mz_hi x1
      refine mv_icmp_geZ (tgt := 38) (a := i4_1.toInt) (b := x1.toInt) d_Grouping_idleOf_8 (by decide) rfl rfl (fun b2 => ?_) (fun b2 => ?_)
      · refine mv_lload_n d_Grouping_idleOf_38 rfl rfl ?_
        exact mv_lret d_Grouping_idleOf_39 rfl ⟨_, I_1, _, rfl⟩
      · refine mv_iload d_Grouping_idleOf_11 rfl ?_
        refine mv_bipush (v := 8) d_Grouping_idleOf_13 (by decide) ?_
        have := mz_hi i4_1
        refine mv_icmp_geZ (tgt := 38) (a := i4_1.toInt) (b := 8) d_Grouping_idleOf_15 (by decide) rfl (by decide) (fun b3 => ?_) (fun b3 => ?_)
        · refine mv_lload_n d_Grouping_idleOf_38 rfl rfl ?_
          exact mv_lret d_Grouping_idleOf_39 rfl ⟨_, I_1, _, rfl⟩
        · refine mv_lload_n d_Grouping_idleOf_18 rfl rfl ?_
          refine mv_lconst (v := 0) d_Grouping_idleOf_19 (by decide) ?_
          refine mv_aload_n d_Grouping_idleOf_20 rfl rfl ?_
          obtain ⟨a5, q4, t_a5⟩ := tm_atR I_1 h_q0_1 (k := 11) rfl
          refine tr_getK q4 d_Grouping_idleOf_21 f_Grouping_34_7 ?_
          refine mv_iload d_Grouping_idleOf_24 rfl ?_
          refine tr_lald I_1 t_a5 (by decide) d_Grouping_idleOf_26 (vp_in_iff.mpr (by omega)) (fun v6 => ?_)
          refine mv_mmax_long (v := (if v6 < 0 then 0 else v6)) d_Grouping_idleOf_27 (mj_in1 (List.mem_of_getElem? (i := 1243) (by decide +kernel)) rfl) (Nat.le_of_ble_eq_true rfl) rfl ?_
          refine mv_ladd d_Grouping_idleOf_30 ?_
          refine mv_lstore_n (lv' := [(2, .long (l2_1 + (if v6 < 0 then 0 else v6))), (4, .int i4_1), (0, .ref o0), (1, .int x1)]) d_Grouping_idleOf_31 rfl (by decide) rfl ?_
          refine mv_iinc (v := (i4_1 + 1)) (lv' := [(4, .int (i4_1 + 1)), (2, .long (l2_1 + (if v6 < 0 then 0 else v6))), (0, .ref o0), (1, .int x1)]) d_Grouping_idleOf_32 rfl rfl (by decide) rfl ?_
          refine mv_goto (tgt := 5) d_Grouping_idleOf_35 (by decide) ?_
          have b7 : (i4_1 + 1).toInt = i4_1.toInt + 1 := mz_addn 1 1 (by decide) (by have := mz_lo i4_1; omega) (by have := mz_hi i4_1; omega)
          exact ih1 (i4_1 + 1) (l2_1 + (if v6 < 0 then 0 else v6)) T_1 M_1 n_1 I_1 h_q0_1 (by first | omega | decide) (by omega)
  exact L5_1 4294967296 0 0 T0 M0 n0 I0 h_o0 (by first | omega | decide) (by show (2147483647 : Int) - _ < _; decide)
abbrev kY_Grouping_judgeLaid : mj_Y := (⟨"TrustDesk$Grouping", "judgeLaid", "()J"⟩, prog_8_method_5_code, 3, (Option.some Jvm.ClassFile.FieldType.long))
theorem d_Grouping_judgeLaid_0 : decode kY_Grouping_judgeLaid.2.1 0 = .ok (.iconst 0, 1) := by decide +kernel
theorem d_Grouping_judgeLaid_1 : decode kY_Grouping_judgeLaid.2.1 1 = .ok (.istore_n 1, 1) := by decide +kernel
theorem d_Grouping_judgeLaid_2 : decode kY_Grouping_judgeLaid.2.1 2 = .ok (.iload_n 1, 1) := by decide +kernel
theorem d_Grouping_judgeLaid_3 : decode kY_Grouping_judgeLaid.2.1 3 = .ok (.aload_n 0, 1) := by decide +kernel
theorem d_Grouping_judgeLaid_4 : decode kY_Grouping_judgeLaid.2.1 4 = .ok (.getfield 44, 3) := by decide +kernel
theorem d_Grouping_judgeLaid_7 : decode kY_Grouping_judgeLaid.2.1 7 = .ok (.if_icmp .ge 54, 3) := by decide +kernel
theorem d_Grouping_judgeLaid_61 : decode kY_Grouping_judgeLaid.2.1 61 = .ok (.aload_n 0, 1) := by decide +kernel
theorem d_Grouping_judgeLaid_62 : decode kY_Grouping_judgeLaid.2.1 62 = .ok (.bipush 8, 2) := by decide +kernel
theorem d_Grouping_judgeLaid_64 : decode kY_Grouping_judgeLaid.2.1 64 = .ok (.invokevirtual 64, 3) := by decide +kernel
theorem lV_Grouping_64 : mj_lV "TrustDesk$Grouping" 64 kY_Grouping_idleOf 1 := ⟨⟨(mj_in1 (List.mem_of_getElem? (i := 1248) (by decide +kernel)) rfl), (mj_in1 (List.mem_of_getElem? (i := 5) (by decide +kernel)) rfl), (mj_in1 (List.mem_of_getElem? (i := 1251) (by decide +kernel)) rfl), by decide, rfl, by decide⟩, (mj_in1 (List.mem_of_getElem? (i := 1250) (by decide +kernel)) rfl), (mj_in (List.mem_append_left _ (List.mem_of_getElem? (i := 71) (by decide +kernel))) rfl)⟩
theorem d_Grouping_judgeLaid_67 : decode kY_Grouping_judgeLaid.2.1 67 = .ok (.lreturn, 1) := by decide +kernel
theorem d_Grouping_judgeLaid_10 : decode kY_Grouping_judgeLaid.2.1 10 = .ok (.iload_n 1, 1) := by decide +kernel
theorem d_Grouping_judgeLaid_11 : decode kY_Grouping_judgeLaid.2.1 11 = .ok (.bipush 8, 2) := by decide +kernel
theorem d_Grouping_judgeLaid_13 : decode kY_Grouping_judgeLaid.2.1 13 = .ok (.if_icmp .ge 48, 3) := by decide +kernel
theorem d_Grouping_judgeLaid_16 : decode kY_Grouping_judgeLaid.2.1 16 = .ok (.aload_n 0, 1) := by decide +kernel
theorem d_Grouping_judgeLaid_17 : decode kY_Grouping_judgeLaid.2.1 17 = .ok (.getfield 19, 3) := by decide +kernel
theorem f_Grouping_19_7 : mj_fl "TrustDesk$Grouping" 19 7 6 := ⟨kR_Grouping, kF_Grouping, 14, "TrustDesk$Grouping", rfl, kg_7, by decide, (mj_in1 (List.mem_of_getElem? (i := 168) (by decide +kernel)) rfl), Or.inl rfl⟩
theorem d_Grouping_judgeLaid_20 : decode kY_Grouping_judgeLaid.2.1 20 = .ok (.iload_n 1, 1) := by decide +kernel
theorem d_Grouping_judgeLaid_21 : decode kY_Grouping_judgeLaid.2.1 21 = .ok (.iaload, 1) := by decide +kernel
theorem d_Grouping_judgeLaid_22 : decode kY_Grouping_judgeLaid.2.1 22 = .ok (.istore_n 2, 1) := by decide +kernel
theorem d_Grouping_judgeLaid_23 : decode kY_Grouping_judgeLaid.2.1 23 = .ok (.iload_n 2, 1) := by decide +kernel
theorem d_Grouping_judgeLaid_24 : decode kY_Grouping_judgeLaid.2.1 24 = .ok (.ifCond .lt 9, 3) := by decide +kernel
theorem d_Grouping_judgeLaid_33 : decode kY_Grouping_judgeLaid.2.1 33 = .ok (.ldc2_w 54, 3) := by decide +kernel
theorem k_Grouping_54 : Cond.constantLong "TrustDesk$Grouping" 54 (-2) ∈ mj_T := (mj_in1 (List.mem_of_getElem? (i := 1285) (by decide +kernel)) rfl)
theorem d_Grouping_judgeLaid_36 : decode kY_Grouping_judgeLaid.2.1 36 = .ok (.lreturn, 1) := by decide +kernel
theorem d_Grouping_judgeLaid_27 : decode kY_Grouping_judgeLaid.2.1 27 = .ok (.iload_n 2, 1) := by decide +kernel
theorem d_Grouping_judgeLaid_28 : decode kY_Grouping_judgeLaid.2.1 28 = .ok (.bipush 8, 2) := by decide +kernel
theorem d_Grouping_judgeLaid_30 : decode kY_Grouping_judgeLaid.2.1 30 = .ok (.if_icmp .lt 7, 3) := by decide +kernel
theorem d_Grouping_judgeLaid_37 : decode kY_Grouping_judgeLaid.2.1 37 = .ok (.aload_n 0, 1) := by decide +kernel
theorem d_Grouping_judgeLaid_38 : decode kY_Grouping_judgeLaid.2.1 38 = .ok (.iload_n 1, 1) := by decide +kernel
theorem d_Grouping_judgeLaid_39 : decode kY_Grouping_judgeLaid.2.1 39 = .ok (.iload_n 2, 1) := by decide +kernel
theorem d_Grouping_judgeLaid_40 : decode kY_Grouping_judgeLaid.2.1 40 = .ok (.invokevirtual 56, 3) := by decide +kernel
abbrev kY_Grouping_put : mj_Y := (⟨"TrustDesk$Grouping", "put", "(II)V"⟩, prog_8_method_9_code, 3, (Option.none : Option Jvm.ClassFile.FieldType))
theorem d_Grouping_put_0 : decode kY_Grouping_put.2.1 0 = .ok (.iload_n 1, 1) := by decide +kernel
theorem d_Grouping_put_1 : decode kY_Grouping_put.2.1 1 = .ok (.ifCond .lt 19, 3) := by decide +kernel
theorem d_Grouping_put_20 : decode kY_Grouping_put.2.1 20 = .ok (.return_, 1) := by decide +kernel
theorem d_Grouping_put_4 : decode kY_Grouping_put.2.1 4 = .ok (.iload_n 1, 1) := by decide +kernel
theorem d_Grouping_put_5 : decode kY_Grouping_put.2.1 5 = .ok (.bipush 8, 2) := by decide +kernel
theorem d_Grouping_put_7 : decode kY_Grouping_put.2.1 7 = .ok (.if_icmp .ge 13, 3) := by decide +kernel
theorem d_Grouping_put_10 : decode kY_Grouping_put.2.1 10 = .ok (.iload_n 2, 1) := by decide +kernel
theorem d_Grouping_put_11 : decode kY_Grouping_put.2.1 11 = .ok (.ifCond .lt 9, 3) := by decide +kernel
theorem d_Grouping_put_14 : decode kY_Grouping_put.2.1 14 = .ok (.iload_n 2, 1) := by decide +kernel
theorem d_Grouping_put_15 : decode kY_Grouping_put.2.1 15 = .ok (.bipush 8, 2) := by decide +kernel
theorem d_Grouping_put_17 : decode kY_Grouping_put.2.1 17 = .ok (.if_icmp .lt 4, 3) := by decide +kernel
theorem d_Grouping_put_21 : decode kY_Grouping_put.2.1 21 = .ok (.aload_n 0, 1) := by decide +kernel
theorem d_Grouping_put_22 : decode kY_Grouping_put.2.1 22 = .ok (.getfield 28, 3) := by decide +kernel
theorem d_Grouping_put_25 : decode kY_Grouping_put.2.1 25 = .ok (.iload_n 2, 1) := by decide +kernel
theorem d_Grouping_put_26 : decode kY_Grouping_put.2.1 26 = .ok (.dup2, 1) := by decide +kernel
theorem d_Grouping_put_27 : decode kY_Grouping_put.2.1 27 = .ok (.iaload, 1) := by decide +kernel
theorem d_Grouping_put_28 : decode kY_Grouping_put.2.1 28 = .ok (.iconst 1, 1) := by decide +kernel
theorem d_Grouping_put_29 : decode kY_Grouping_put.2.1 29 = .ok (.iadd, 1) := by decide +kernel
theorem d_Grouping_put_30 : decode kY_Grouping_put.2.1 30 = .ok (.iastore, 1) := by decide +kernel
theorem d_Grouping_put_31 : decode kY_Grouping_put.2.1 31 = .ok (.aload_n 0, 1) := by decide +kernel
theorem d_Grouping_put_32 : decode kY_Grouping_put.2.1 32 = .ok (.getfield 34, 3) := by decide +kernel
theorem d_Grouping_put_35 : decode kY_Grouping_put.2.1 35 = .ok (.iload_n 2, 1) := by decide +kernel
theorem d_Grouping_put_36 : decode kY_Grouping_put.2.1 36 = .ok (.dup2, 1) := by decide +kernel
theorem d_Grouping_put_37 : decode kY_Grouping_put.2.1 37 = .ok (.laload, 1) := by decide +kernel
theorem d_Grouping_put_38 : decode kY_Grouping_put.2.1 38 = .ok (.aload_n 0, 1) := by decide +kernel
theorem d_Grouping_put_39 : decode kY_Grouping_put.2.1 39 = .ok (.getfield 15, 3) := by decide +kernel
theorem f_Grouping_15_7 : mj_fl "TrustDesk$Grouping" 15 7 5 := ⟨kR_Grouping, kF_Grouping, 14, "TrustDesk$Grouping", rfl, kg_7, by decide, (mj_in1 (List.mem_of_getElem? (i := 167) (by decide +kernel)) rfl), Or.inl rfl⟩
theorem d_Grouping_put_42 : decode kY_Grouping_put.2.1 42 = .ok (.iload_n 1, 1) := by decide +kernel
theorem d_Grouping_put_43 : decode kY_Grouping_put.2.1 43 = .ok (.laload, 1) := by decide +kernel
theorem d_Grouping_put_44 : decode kY_Grouping_put.2.1 44 = .ok (.ladd, 1) := by decide +kernel
theorem d_Grouping_put_45 : decode kY_Grouping_put.2.1 45 = .ok (.lastore, 1) := by decide +kernel
theorem d_Grouping_put_46 : decode kY_Grouping_put.2.1 46 = .ok (.aload_n 0, 1) := by decide +kernel
theorem d_Grouping_put_47 : decode kY_Grouping_put.2.1 47 = .ok (.getfield 31, 3) := by decide +kernel
theorem d_Grouping_put_50 : decode kY_Grouping_put.2.1 50 = .ok (.iload_n 2, 1) := by decide +kernel
theorem d_Grouping_put_51 : decode kY_Grouping_put.2.1 51 = .ok (.dup2, 1) := by decide +kernel
theorem d_Grouping_put_52 : decode kY_Grouping_put.2.1 52 = .ok (.iaload, 1) := by decide +kernel
theorem d_Grouping_put_53 : decode kY_Grouping_put.2.1 53 = .ok (.aload_n 0, 1) := by decide +kernel
theorem d_Grouping_put_54 : decode kY_Grouping_put.2.1 54 = .ok (.getfield 9, 3) := by decide +kernel
theorem f_Grouping_9_7 : mj_fl "TrustDesk$Grouping" 9 7 4 := ⟨kR_Grouping, kF_Grouping, 14, "TrustDesk$Grouping", rfl, kg_7, by decide, (mj_in1 (List.mem_of_getElem? (i := 166) (by decide +kernel)) rfl), Or.inl rfl⟩
theorem d_Grouping_put_57 : decode kY_Grouping_put.2.1 57 = .ok (.iload_n 1, 1) := by decide +kernel
theorem d_Grouping_put_58 : decode kY_Grouping_put.2.1 58 = .ok (.iaload, 1) := by decide +kernel
theorem d_Grouping_put_59 : decode kY_Grouping_put.2.1 59 = .ok (.iand, 1) := by decide +kernel
theorem d_Grouping_put_60 : decode kY_Grouping_put.2.1 60 = .ok (.iastore, 1) := by decide +kernel
theorem d_Grouping_put_61 : decode kY_Grouping_put.2.1 61 = .ok (.return_, 1) := by decide +kernel
def w_Grouping_put : List Nat := [759, 760, 761]
theorem tc_Grouping_put {g : mj_G} {l : Launch} {d : Nat} {T0 : tm_H} {M0 : mj_M} {n0 x9 : Nat} {o0 : Nat} {x1 : Int32} {x2 : Int32} (h_o0 : T0 o0 = some (0, 7, 0)) (I0 : tm_I tm_FT (tm_in w_Grouping_put) x9 T0 M0 n0 T0 M0 n0) : mj_Met g l kY_Grouping_put d [.ref o0, .int x1, .int x2] M0 n0 0 0 (tm_Q tm_FT (tm_in w_Grouping_put) x9 T0 M0 n0 (fun r _ _ => r = none)) := by
  refine mj_enter (by decide) (Nat.le_of_ble_eq_true rfl) ?_
  refine mv_iload_n d_Grouping_put_0 rfl rfl ?_
  have := mz_hi x1
  refine mv_if_ltZ (tgt := 20) (a := x1.toInt) d_Grouping_put_1 (by decide) rfl (fun b1 => ?_) (fun b1 => ?_)
  · exact mv_vret d_Grouping_put_20 rfl ⟨_, I0, rfl⟩
  · refine mv_iload_n d_Grouping_put_4 rfl rfl ?_
    refine mv_bipush (v := 8) d_Grouping_put_5 (by decide) ?_
    have := mz_hi x1
    refine mv_icmp_geZ (tgt := 20) (a := x1.toInt) (b := 8) d_Grouping_put_7 (by decide) rfl (by decide) (fun b2 => ?_) (fun b2 => ?_)
    · exact mv_vret d_Grouping_put_20 rfl ⟨_, I0, rfl⟩
    · refine mv_iload_n d_Grouping_put_10 rfl rfl ?_
      have := mz_hi x2
      refine mv_if_ltZ (tgt := 20) (a := x2.toInt) d_Grouping_put_11 (by decide) rfl (fun b3 => ?_) (fun b3 => ?_)
      · exact mv_vret d_Grouping_put_20 rfl ⟨_, I0, rfl⟩
      · refine mv_iload_n d_Grouping_put_14 rfl rfl ?_
        refine mv_bipush (v := 8) d_Grouping_put_15 (by decide) ?_
        have := mz_hi x2
        refine mv_icmp_ltZ (tgt := 21) (a := x2.toInt) (b := 8) d_Grouping_put_17 (by decide) rfl (by decide) (fun b4 => ?_) (fun b4 => ?_)
        · refine mv_aload_n d_Grouping_put_21 rfl rfl ?_
          obtain ⟨a6, q5, t_a6⟩ := tm_atR I0 h_o0 (k := 9) rfl
          refine tr_getK q5 d_Grouping_put_22 f_Grouping_28_7 ?_
          refine mv_iload_n d_Grouping_put_25 rfl rfl ?_
          refine mv_dup2_11 d_Grouping_put_26 rfl rfl ?_
          refine tr_iald I0 t_a6 (by decide) d_Grouping_put_27 (vp_in_iff.mpr (by omega)) (fun v7 => ?_)
          refine mv_iconst (v := 1) d_Grouping_put_28 (by decide) ?_
          refine mv_iadd d_Grouping_put_29 ?_
          refine tr_iastK tm_okF I0 t_a6 (by decide) (Or.inl (by decide)) d_Grouping_put_30 (vp_in_iff.mpr (by omega)) (fun M8 I9 K10 => ?_)
          refine mv_aload_n d_Grouping_put_31 rfl rfl ?_
          obtain ⟨a12, q11, t_a12⟩ := tm_atR I9 h_o0 (k := 11) rfl
          refine tr_getK q11 d_Grouping_put_32 f_Grouping_34_7 ?_
          refine mv_iload_n d_Grouping_put_35 rfl rfl ?_
          refine mv_dup2_11 d_Grouping_put_36 rfl rfl ?_
          refine tr_lald I9 t_a12 (by decide) d_Grouping_put_37 (vp_in_iff.mpr (by omega)) (fun v13 => ?_)
          refine mv_aload_n d_Grouping_put_38 rfl rfl ?_
          obtain ⟨a15, q14, t_a15⟩ := tm_atR I9 h_o0 (k := 5) rfl
          refine tr_getK q14 d_Grouping_put_39 f_Grouping_15_7 ?_
          refine mv_iload_n d_Grouping_put_42 rfl rfl ?_
          refine tr_lald I9 t_a15 (by decide) d_Grouping_put_43 (vp_in_iff.mpr (by omega)) (fun v16 => ?_)
          refine mv_ladd d_Grouping_put_44 ?_
          refine tr_lastK tm_okF I9 t_a12 (by decide) (Or.inl (by decide)) d_Grouping_put_45 (vp_in_iff.mpr (by omega)) (fun M17 I18 K19 => ?_)
          refine mv_aload_n d_Grouping_put_46 rfl rfl ?_
          obtain ⟨a21, q20, t_a21⟩ := tm_atR I18 h_o0 (k := 10) rfl
          refine tr_getK q20 d_Grouping_put_47 f_Grouping_31_7 ?_
          refine mv_iload_n d_Grouping_put_50 rfl rfl ?_
          refine mv_dup2_11 d_Grouping_put_51 rfl rfl ?_
          refine tr_iald I18 t_a21 (by decide) d_Grouping_put_52 (vp_in_iff.mpr (by omega)) (fun v22 => ?_)
          refine mv_aload_n d_Grouping_put_53 rfl rfl ?_
          obtain ⟨a24, q23, t_a24⟩ := tm_atR I18 h_o0 (k := 4) rfl
          refine tr_getK q23 d_Grouping_put_54 f_Grouping_9_7 ?_
          refine mv_iload_n d_Grouping_put_57 rfl rfl ?_
          refine tr_iald I18 t_a24 (by decide) d_Grouping_put_58 (vp_in_iff.mpr (by omega)) (fun v25 => ?_)
          refine mv_iand d_Grouping_put_59 ?_
          refine tr_iastK tm_okF I18 t_a21 (by decide) (Or.inl (by decide)) d_Grouping_put_60 (vp_in_iff.mpr (by omega)) (fun M26 I27 K28 => ?_)
          exact mv_vret d_Grouping_put_61 rfl ⟨_, I27, rfl⟩
        · exact mv_vret d_Grouping_put_20 rfl ⟨_, I0, rfl⟩
theorem lV_Grouping_56 : mj_lV "TrustDesk$Grouping" 56 kY_Grouping_put 2 := ⟨⟨(mj_in1 (List.mem_of_getElem? (i := 1256) (by decide +kernel)) rfl), (mj_in1 (List.mem_of_getElem? (i := 5) (by decide +kernel)) rfl), (mj_in1 (List.mem_of_getElem? (i := 1259) (by decide +kernel)) rfl), by decide, rfl, by decide⟩, (mj_in1 (List.mem_of_getElem? (i := 1258) (by decide +kernel)) rfl), (mj_in (List.mem_append_left _ (List.mem_of_getElem? (i := 73) (by decide +kernel))) rfl)⟩
theorem d_Grouping_judgeLaid_43 : decode kY_Grouping_judgeLaid.2.1 43 = .ok (.aload_n 0, 1) := by decide +kernel
theorem d_Grouping_judgeLaid_44 : decode kY_Grouping_judgeLaid.2.1 44 = .ok (.iload_n 2, 1) := by decide +kernel
theorem d_Grouping_judgeLaid_45 : decode kY_Grouping_judgeLaid.2.1 45 = .ok (.invokevirtual 60, 3) := by decide +kernel
theorem lV_Grouping_60 : mj_lV "TrustDesk$Grouping" 60 kY_Grouping_holdsTogether 1 := ⟨⟨(mj_in1 (List.mem_of_getElem? (i := 1260) (by decide +kernel)) rfl), (mj_in1 (List.mem_of_getElem? (i := 5) (by decide +kernel)) rfl), (mj_in1 (List.mem_of_getElem? (i := 1263) (by decide +kernel)) rfl), by decide, rfl, by decide⟩, (mj_in1 (List.mem_of_getElem? (i := 1262) (by decide +kernel)) rfl), (mj_in (List.mem_append_left _ (List.mem_of_getElem? (i := 74) (by decide +kernel))) rfl)⟩
theorem d_Grouping_judgeLaid_48 : decode kY_Grouping_judgeLaid.2.1 48 = .ok (.ifCond .ne 7, 3) := by decide +kernel
theorem d_Grouping_judgeLaid_55 : decode kY_Grouping_judgeLaid.2.1 55 = .ok (.iinc 1 1, 3) := by decide +kernel
theorem d_Grouping_judgeLaid_58 : decode kY_Grouping_judgeLaid.2.1 58 = .ok (.goto (-56), 3) := by decide +kernel
theorem d_Grouping_judgeLaid_51 : decode kY_Grouping_judgeLaid.2.1 51 = .ok (.ldc2_w 54, 3) := by decide +kernel
theorem d_Grouping_judgeLaid_54 : decode kY_Grouping_judgeLaid.2.1 54 = .ok (.lreturn, 1) := by decide +kernel
def w_Grouping_judgeLaid : List Nat := [759, 760, 761]
theorem tc_Grouping_judgeLaid {g : mj_G} {l : Launch} {d : Nat} {T0 : tm_H} {M0 : mj_M} {n0 x9 : Nat} {o0 : Nat} (h_o0 : T0 o0 = some (0, 7, 0)) (I0 : tm_I tm_FT (tm_in w_Grouping_judgeLaid) x9 T0 M0 n0 T0 M0 n0) : mj_Met g l kY_Grouping_judgeLaid (d + 2) [.ref o0] M0 n0 0 0 (tm_Q tm_FT (tm_in w_Grouping_judgeLaid) x9 T0 M0 n0 (fun r _ _ => ∃ v : Int64, r = some (.long v))) := by
  refine mj_enter (by decide) (Nat.le_of_ble_eq_true rfl) ?_
  refine mv_iconst (v := 0) d_Grouping_judgeLaid_0 (by decide) ?_
  refine mv_istore_n (lv' := [(1, .int 0), (0, .ref o0)]) d_Grouping_judgeLaid_1 rfl (by decide) rfl ?_
  have L2_1 : ∀ (k : Nat) (i1_1 : Int32) (T_1 : tm_H) (M_1 : mj_M) (n_1 : Nat), tm_I tm_FT (tm_in w_Grouping_judgeLaid) x9 T0 M0 n0 T_1 M_1 n_1 → T_1 o0 = some (0, 7, 0) → 0 ≤ i1_1.toInt → 2147483647 - i1_1.toInt < (k : Int) → mj_V g l kY_Grouping_judgeLaid (d + 2) 2 [(1, .int i1_1), (0, .ref o0)] [] M_1 n_1 0 0 (tm_Q tm_FT (tm_in w_Grouping_judgeLaid) x9 T0 M0 n0 (fun r _ _ => ∃ v : Int64, r = some (.long v))) := by
    intro k1
    induction k1 with
    | zero =>
      intro i1_1 T_1 M_1 n_1 I_1 h_q0_1 iv0_1 hk1
      have := mz_hi i1_1
      omega
    | succ k1 ih1 =>
      intro i1_1 T_1 M_1 n_1 I_1 h_q0_1 iv0_1 hk1
      refine mv_iload_n d_Grouping_judgeLaid_2 rfl rfl ?_
      refine mv_aload_n d_Grouping_judgeLaid_3 rfl rfl ?_
      obtain ⟨v3, q2⟩ := tm_atI I_1 h_q0_1 (k := 2) rfl
      refine tr_getK q2 d_Grouping_judgeLaid_4 f_Grouping_44_7 ?_
      have := mz_hi i1_1
      have := mz_hi v3
      refine mv_icmp_geZ (tgt := 61) (a := i1_1.toInt) (b := v3.toInt) d_Grouping_judgeLaid_7 (by decide) rfl rfl (fun b4 => ?_) (fun b4 => ?_)
      · refine mv_aload_n d_Grouping_judgeLaid_61 rfl rfl ?_
        refine mv_bipush (v := 8) d_Grouping_judgeLaid_62 (by decide) ?_
        obtain ⟨_, b11, -⟩ := I_1.1 _ _ h_q0_1
        refine mv_callV (kc' := 0) (ks' := 0) (As := [.int 8]) (st9 := [.int 8, .ref o0]) d_Grouping_judgeLaid_64 lV_Grouping_64 b11 rfl (tc_Grouping_idleOf (d := d) (x9 := x9) (o0 := o0) (x1 := 8) h_q0_1 I_1.start) rfl (Nat.le_of_ble_eq_true rfl) (Nat.le_of_ble_eq_true rfl) (Nat.le_of_ble_eq_true rfl) (hst := rfl) (fun b5r M6 n7 b5 => ?_)
        obtain ⟨T8, J9, v12, rfl⟩ := b5
        have I10 := I_1.call J9 (tm_sub (by decide)) (Or.inl rfl)
        have t13 := J9.up h_q0_1
        have q14 := J9.keep h_q0_1 (by decide) q2
        exact mv_lret d_Grouping_judgeLaid_67 rfl ⟨_, I10, _, rfl⟩
      · refine mv_iload_n d_Grouping_judgeLaid_10 rfl rfl ?_
        refine mv_bipush (v := 8) d_Grouping_judgeLaid_11 (by decide) ?_
        have := mz_hi i1_1
        refine mv_icmp_geZ (tgt := 61) (a := i1_1.toInt) (b := 8) d_Grouping_judgeLaid_13 (by decide) rfl (by decide) (fun b15 => ?_) (fun b15 => ?_)
        · refine mv_aload_n d_Grouping_judgeLaid_61 rfl rfl ?_
          refine mv_bipush (v := 8) d_Grouping_judgeLaid_62 (by decide) ?_
          obtain ⟨_, b22, -⟩ := I_1.1 _ _ h_q0_1
          refine mv_callV (kc' := 0) (ks' := 0) (As := [.int 8]) (st9 := [.int 8, .ref o0]) d_Grouping_judgeLaid_64 lV_Grouping_64 b22 rfl (tc_Grouping_idleOf (d := d) (x9 := x9) (o0 := o0) (x1 := 8) h_q0_1 I_1.start) rfl (Nat.le_of_ble_eq_true rfl) (Nat.le_of_ble_eq_true rfl) (Nat.le_of_ble_eq_true rfl) (hst := rfl) (fun b16r M17 n18 b16 => ?_)
          obtain ⟨T19, J20, v23, rfl⟩ := b16
          have I21 := I_1.call J20 (tm_sub (by decide)) (Or.inl rfl)
          have t24 := J20.up h_q0_1
          have q25 := J20.keep h_q0_1 (by decide) q2
          exact mv_lret d_Grouping_judgeLaid_67 rfl ⟨_, I21, _, rfl⟩
        · refine mv_aload_n d_Grouping_judgeLaid_16 rfl rfl ?_
          obtain ⟨a27, q26, t_a27⟩ := tm_atR I_1 h_q0_1 (k := 6) rfl
          refine tr_getK q26 d_Grouping_judgeLaid_17 f_Grouping_19_7 ?_
          refine mv_iload_n d_Grouping_judgeLaid_20 rfl rfl ?_
          refine tr_iald I_1 t_a27 (by decide) d_Grouping_judgeLaid_21 (vp_in_iff.mpr (by omega)) (fun v28 => ?_)
          refine mv_istore_n (lv' := [(2, .int v28), (1, .int i1_1), (0, .ref o0)]) d_Grouping_judgeLaid_22 rfl (by decide) rfl ?_
          refine mv_iload_n d_Grouping_judgeLaid_23 rfl rfl ?_
          have := mz_hi v28
          refine mv_if_ltZ (tgt := 33) (a := v28.toInt) d_Grouping_judgeLaid_24 (by decide) rfl (fun b29 => ?_) (fun b29 => ?_)
          · refine mv_ldc2 d_Grouping_judgeLaid_33 k_Grouping_54 ?_
            exact mv_lret d_Grouping_judgeLaid_36 rfl ⟨_, I_1, _, rfl⟩
          · refine mv_iload_n d_Grouping_judgeLaid_27 rfl rfl ?_
            refine mv_bipush (v := 8) d_Grouping_judgeLaid_28 (by decide) ?_
            have := mz_hi v28
            refine mv_icmp_ltZ (tgt := 37) (a := v28.toInt) (b := 8) d_Grouping_judgeLaid_30 (by decide) rfl (by decide) (fun b30 => ?_) (fun b30 => ?_)
            · refine mv_aload_n d_Grouping_judgeLaid_37 rfl rfl ?_
              refine mv_iload_n d_Grouping_judgeLaid_38 rfl rfl ?_
              refine mv_iload_n d_Grouping_judgeLaid_39 rfl rfl ?_
              obtain ⟨_, b37, -⟩ := I_1.1 _ _ h_q0_1
              refine mv_callV (kc' := 0) (ks' := 0) (As := [.int i1_1, .int v28]) (st9 := [.int v28, .int i1_1, .ref o0]) d_Grouping_judgeLaid_40 lV_Grouping_56 b37 rfl (tc_Grouping_put (d := (d + 1)) (x9 := x9) (o0 := o0) (x1 := i1_1) (x2 := v28) h_q0_1 I_1.start) rfl (Nat.le_of_ble_eq_true rfl) (Nat.le_of_ble_eq_true rfl) (Nat.le_of_ble_eq_true rfl) (hst := rfl) (fun b31r M32 n33 b31 => ?_)
              obtain ⟨T34, J35, rfl⟩ := b31
              have I36 := I_1.call J35 (tm_sub (by decide)) (Or.inl rfl)
              have t38 := J35.up h_q0_1
              have q39 := J35.keep h_q0_1 (by decide) q2
              have q40 := J35.keep h_q0_1 (by decide) q26
              have t41 := J35.up t_a27
              refine mv_aload_n d_Grouping_judgeLaid_43 rfl rfl ?_
              refine mv_iload_n d_Grouping_judgeLaid_44 rfl rfl ?_
              obtain ⟨_, b48, -⟩ := I36.1 _ _ t38
              refine mv_callV (kc' := 0) (ks' := 0) (As := [.int v28]) (st9 := [.int v28, .ref o0]) d_Grouping_judgeLaid_45 lV_Grouping_60 b48 rfl (tc_Grouping_holdsTogether (d := d) (x9 := x9) (o0 := o0) (x1 := v28) t38 I36.start) rfl (Nat.le_of_ble_eq_true rfl) (Nat.le_of_ble_eq_true rfl) (Nat.le_of_ble_eq_true rfl) (hst := rfl) (fun b42r M43 n44 b42 => ?_)
              obtain ⟨T45, J46, v49, rfl, b50, b51⟩ := b42
              have I47 := I36.call J46 (tm_sub (by decide)) (Or.inl rfl)
              have t52 := J46.up t38
              have q53 := J46.keep t38 (by decide) q39
              have q54 := J46.keep t38 (by decide) q40
              have t55 := J46.up t41
              have := mz_hi v49
              refine mv_if_neZ (tgt := 55) (a := v49.toInt) d_Grouping_judgeLaid_48 (by decide) rfl (fun b56 => ?_) (fun b56 => ?_)
              · refine mv_iinc (v := (i1_1 + 1)) (lv' := [(1, .int (i1_1 + 1)), (2, .int v28), (0, .ref o0)]) d_Grouping_judgeLaid_55 rfl rfl (by decide) rfl ?_
                refine mv_goto (tgt := 2) d_Grouping_judgeLaid_58 (by decide) ?_
                refine mv_locals (lv' := [(1, .int (i1_1 + 1)), (0, .ref o0)]) (by intro q hq; simp only [List.mem_cons, List.not_mem_nil, or_false] at hq; rcases hq with rfl | rfl <;> rfl) ?_
                have b57 : (i1_1 + 1).toInt = i1_1.toInt + 1 := mz_addn 1 1 (by decide) (by have := mz_lo i1_1; omega) (by have := mz_hi i1_1; omega)
                exact ih1 (i1_1 + 1) T45 M43 n44 I47 t52 (by first | omega | decide) (by omega)
              · refine mv_ldc2 d_Grouping_judgeLaid_51 k_Grouping_54 ?_
                exact mv_lret d_Grouping_judgeLaid_54 rfl ⟨_, I47, _, rfl⟩
            · refine mv_ldc2 d_Grouping_judgeLaid_33 k_Grouping_54 ?_
              exact mv_lret d_Grouping_judgeLaid_36 rfl ⟨_, I_1, _, rfl⟩
  exact L2_1 4294967296 0 T0 M0 n0 I0 h_o0 (by first | omega | decide) (by show (2147483647 : Int) - _ < _; decide)
abbrev kY_Grouping_keepAsBest : mj_Y := (⟨"TrustDesk$Grouping", "keepAsBest", "(JI)V"⟩, prog_8_method_8_code, 5, (Option.none : Option Jvm.ClassFile.FieldType))
theorem d_Grouping_keepAsBest_0 : decode kY_Grouping_keepAsBest.2.1 0 = .ok (.aload_n 0, 1) := by decide +kernel
theorem d_Grouping_keepAsBest_1 : decode kY_Grouping_keepAsBest.2.1 1 = .ok (.lload_n 1, 1) := by decide +kernel
theorem d_Grouping_keepAsBest_2 : decode kY_Grouping_keepAsBest.2.1 2 = .ok (.putfield 50, 3) := by decide +kernel
theorem d_Grouping_keepAsBest_5 : decode kY_Grouping_keepAsBest.2.1 5 = .ok (.aload_n 0, 1) := by decide +kernel
theorem d_Grouping_keepAsBest_6 : decode kY_Grouping_keepAsBest.2.1 6 = .ok (.iload_n 3, 1) := by decide +kernel
theorem d_Grouping_keepAsBest_7 : decode kY_Grouping_keepAsBest.2.1 7 = .ok (.putfield 47, 3) := by decide +kernel
theorem d_Grouping_keepAsBest_10 : decode kY_Grouping_keepAsBest.2.1 10 = .ok (.iconst 0, 1) := by decide +kernel
theorem d_Grouping_keepAsBest_11 : decode kY_Grouping_keepAsBest.2.1 11 = .ok (.istore 4, 2) := by decide +kernel
theorem d_Grouping_keepAsBest_13 : decode kY_Grouping_keepAsBest.2.1 13 = .ok (.iload 4, 2) := by decide +kernel
theorem d_Grouping_keepAsBest_15 : decode kY_Grouping_keepAsBest.2.1 15 = .ok (.aload_n 0, 1) := by decide +kernel
theorem d_Grouping_keepAsBest_16 : decode kY_Grouping_keepAsBest.2.1 16 = .ok (.getfield 44, 3) := by decide +kernel
theorem d_Grouping_keepAsBest_19 : decode kY_Grouping_keepAsBest.2.1 19 = .ok (.if_icmp .ge 30, 3) := by decide +kernel
theorem d_Grouping_keepAsBest_49 : decode kY_Grouping_keepAsBest.2.1 49 = .ok (.return_, 1) := by decide +kernel
theorem d_Grouping_keepAsBest_22 : decode kY_Grouping_keepAsBest.2.1 22 = .ok (.iload 4, 2) := by decide +kernel
theorem d_Grouping_keepAsBest_24 : decode kY_Grouping_keepAsBest.2.1 24 = .ok (.bipush 8, 2) := by decide +kernel
theorem d_Grouping_keepAsBest_26 : decode kY_Grouping_keepAsBest.2.1 26 = .ok (.if_icmp .ge 23, 3) := by decide +kernel
theorem d_Grouping_keepAsBest_29 : decode kY_Grouping_keepAsBest.2.1 29 = .ok (.aload_n 0, 1) := by decide +kernel
theorem d_Grouping_keepAsBest_30 : decode kY_Grouping_keepAsBest.2.1 30 = .ok (.getfield 25, 3) := by decide +kernel
theorem d_Grouping_keepAsBest_33 : decode kY_Grouping_keepAsBest.2.1 33 = .ok (.iload 4, 2) := by decide +kernel
theorem d_Grouping_keepAsBest_35 : decode kY_Grouping_keepAsBest.2.1 35 = .ok (.aload_n 0, 1) := by decide +kernel
theorem d_Grouping_keepAsBest_36 : decode kY_Grouping_keepAsBest.2.1 36 = .ok (.getfield 22, 3) := by decide +kernel
theorem f_Grouping_22_7 : mj_fl "TrustDesk$Grouping" 22 7 7 := ⟨kR_Grouping, kF_Grouping, 14, "TrustDesk$Grouping", rfl, kg_7, by decide, (mj_in1 (List.mem_of_getElem? (i := 169) (by decide +kernel)) rfl), Or.inl rfl⟩
theorem d_Grouping_keepAsBest_39 : decode kY_Grouping_keepAsBest.2.1 39 = .ok (.iload 4, 2) := by decide +kernel
theorem d_Grouping_keepAsBest_41 : decode kY_Grouping_keepAsBest.2.1 41 = .ok (.iaload, 1) := by decide +kernel
theorem d_Grouping_keepAsBest_42 : decode kY_Grouping_keepAsBest.2.1 42 = .ok (.iastore, 1) := by decide +kernel
theorem d_Grouping_keepAsBest_43 : decode kY_Grouping_keepAsBest.2.1 43 = .ok (.iinc 4 1, 3) := by decide +kernel
theorem d_Grouping_keepAsBest_46 : decode kY_Grouping_keepAsBest.2.1 46 = .ok (.goto (-33), 3) := by decide +kernel
def w_Grouping_keepAsBest : List Nat := [700, 703, 758]
theorem tc_Grouping_keepAsBest {g : mj_G} {l : Launch} {d : Nat} {T0 : tm_H} {M0 : mj_M} {n0 x9 : Nat} {o0 : Nat} {x1 : Int64} {x2 : Int32} (h_o0 : T0 o0 = some (0, 7, 0)) (I0 : tm_I tm_FT (tm_in w_Grouping_keepAsBest) x9 T0 M0 n0 T0 M0 n0) : mj_Met g l kY_Grouping_keepAsBest d [.ref o0, .long x1, .int x2] M0 n0 0 0 (tm_Q tm_FT (tm_in w_Grouping_keepAsBest) x9 T0 M0 n0 (fun r _ _ => r = none)) := by
  refine mj_enter (by decide) (Nat.le_of_ble_eq_true rfl) ?_
  refine mv_aload_n d_Grouping_keepAsBest_0 rfl rfl ?_
  refine mv_lload_n d_Grouping_keepAsBest_1 rfl rfl ?_
  refine tr_putK tm_okF I0 h_o0 (k := 0) rfl ⟨_, rfl⟩ (Or.inl (by decide)) d_Grouping_keepAsBest_2 p_Grouping_50_7 rfl rfl (fun M1 I2 q3 K4 => ?_)
  refine mv_aload_n d_Grouping_keepAsBest_5 rfl rfl ?_
  refine mv_iload_n d_Grouping_keepAsBest_6 rfl rfl ?_
  refine tr_putK tm_okF I2 h_o0 (k := 3) rfl ⟨_, rfl⟩ (Or.inl (by decide)) d_Grouping_keepAsBest_7 p_Grouping_47_7 rfl rfl (fun M5 I6 q7 K8 => ?_)
  refine mv_iconst (v := 0) d_Grouping_keepAsBest_10 (by decide) ?_
  refine mv_istore (lv' := [(4, .int 0), (0, .ref o0), (1, .long x1), (3, .int x2)]) d_Grouping_keepAsBest_11 (by decide) rfl ?_
  have L13_9 : ∀ (k : Nat) (i4_9 : Int32) (T_9 : tm_H) (M_9 : mj_M) (n_9 : Nat), tm_I tm_FT (tm_in w_Grouping_keepAsBest) x9 T0 M0 n0 T_9 M_9 n_9 → T_9 o0 = some (0, 7, 0) → 0 ≤ i4_9.toInt → 2147483647 - i4_9.toInt < (k : Int) → mj_V g l kY_Grouping_keepAsBest d 13 [(4, .int i4_9), (0, .ref o0), (1, .long x1), (3, .int x2)] [] M_9 n_9 0 0 (tm_Q tm_FT (tm_in w_Grouping_keepAsBest) x9 T0 M0 n0 (fun r _ _ => r = none)) := by
    intro k9
    induction k9 with
    | zero =>
      intro i4_9 T_9 M_9 n_9 I_9 h_q0_9 iv0_9 hk9
      have := mz_hi i4_9
      omega
    | succ k9 ih9 =>
      intro i4_9 T_9 M_9 n_9 I_9 h_q0_9 iv0_9 hk9
      refine mv_iload d_Grouping_keepAsBest_13 rfl ?_
      refine mv_aload_n d_Grouping_keepAsBest_15 rfl rfl ?_
      obtain ⟨v11, q10⟩ := tm_atI I_9 h_q0_9 (k := 2) rfl
      refine tr_getK q10 d_Grouping_keepAsBest_16 f_Grouping_44_7 ?_
      have := mz_hi i4_9
      have := mz_hi v11
      refine mv_icmp_geZ (tgt := 49) (a := i4_9.toInt) (b := v11.toInt) d_Grouping_keepAsBest_19 (by decide) rfl rfl (fun b12 => ?_) (fun b12 => ?_)
      · exact mv_vret d_Grouping_keepAsBest_49 rfl ⟨_, I_9, rfl⟩
      · refine mv_iload d_Grouping_keepAsBest_22 rfl ?_
        refine mv_bipush (v := 8) d_Grouping_keepAsBest_24 (by decide) ?_
        have := mz_hi i4_9
        refine mv_icmp_geZ (tgt := 49) (a := i4_9.toInt) (b := 8) d_Grouping_keepAsBest_26 (by decide) rfl (by decide) (fun b13 => ?_) (fun b13 => ?_)
        · exact mv_vret d_Grouping_keepAsBest_49 rfl ⟨_, I_9, rfl⟩
        · refine mv_aload_n d_Grouping_keepAsBest_29 rfl rfl ?_
          obtain ⟨a15, q14, t_a15⟩ := tm_atR I_9 h_q0_9 (k := 8) rfl
          refine tr_getK q14 d_Grouping_keepAsBest_30 f_Grouping_25_7 ?_
          refine mv_iload d_Grouping_keepAsBest_33 rfl ?_
          refine mv_aload_n d_Grouping_keepAsBest_35 rfl rfl ?_
          obtain ⟨a17, q16, t_a17⟩ := tm_atR I_9 h_q0_9 (k := 7) rfl
          refine tr_getK q16 d_Grouping_keepAsBest_36 f_Grouping_22_7 ?_
          refine mv_iload d_Grouping_keepAsBest_39 rfl ?_
          refine tr_iald I_9 t_a17 (by decide) d_Grouping_keepAsBest_41 (vp_in_iff.mpr (by omega)) (fun v18 => ?_)
          refine tr_iastK tm_okF I_9 t_a15 (by decide) (Or.inl (by decide)) d_Grouping_keepAsBest_42 (vp_in_iff.mpr (by omega)) (fun M19 I20 K21 => ?_)
          refine mv_iinc (v := (i4_9 + 1)) (lv' := [(4, .int (i4_9 + 1)), (0, .ref o0), (1, .long x1), (3, .int x2)]) d_Grouping_keepAsBest_43 rfl rfl (by decide) rfl ?_
          refine mv_goto (tgt := 13) d_Grouping_keepAsBest_46 (by decide) ?_
          have b22 : (i4_9 + 1).toInt = i4_9.toInt + 1 := mz_addn 1 1 (by decide) (by have := mz_lo i4_9; omega) (by have := mz_hi i4_9; omega)
          exact ih9 (i4_9 + 1) T_9 M19 n_9 I20 h_q0_9 (by first | omega | decide) (by omega)
  exact L13_9 4294967296 0 T0 M5 n0 I6 h_o0 (by first | omega | decide) (by show (2147483647 : Int) - _ < _; decide)
abbrev kY_Grouping_take : mj_Y := (⟨"TrustDesk$Grouping", "take", "(IJI)V"⟩, prog_8_method_3_code, 5, (Option.none : Option Jvm.ClassFile.FieldType))
theorem d_Grouping_take_0 : decode kY_Grouping_take.2.1 0 = .ok (.aload_n 0, 1) := by decide +kernel
theorem d_Grouping_take_1 : decode kY_Grouping_take.2.1 1 = .ok (.getfield 44, 3) := by decide +kernel
theorem d_Grouping_take_4 : decode kY_Grouping_take.2.1 4 = .ok (.ifCond .lt 12, 3) := by decide +kernel
theorem d_Grouping_take_16 : decode kY_Grouping_take.2.1 16 = .ok (.return_, 1) := by decide +kernel
theorem d_Grouping_take_7 : decode kY_Grouping_take.2.1 7 = .ok (.aload_n 0, 1) := by decide +kernel
theorem d_Grouping_take_8 : decode kY_Grouping_take.2.1 8 = .ok (.getfield 44, 3) := by decide +kernel
theorem d_Grouping_take_11 : decode kY_Grouping_take.2.1 11 = .ok (.bipush 8, 2) := by decide +kernel
theorem d_Grouping_take_13 : decode kY_Grouping_take.2.1 13 = .ok (.if_icmp .lt 4, 3) := by decide +kernel
theorem d_Grouping_take_17 : decode kY_Grouping_take.2.1 17 = .ok (.aload_n 0, 1) := by decide +kernel
theorem d_Grouping_take_18 : decode kY_Grouping_take.2.1 18 = .ok (.getfield 9, 3) := by decide +kernel
theorem d_Grouping_take_21 : decode kY_Grouping_take.2.1 21 = .ok (.aload_n 0, 1) := by decide +kernel
theorem d_Grouping_take_22 : decode kY_Grouping_take.2.1 22 = .ok (.getfield 44, 3) := by decide +kernel
theorem d_Grouping_take_25 : decode kY_Grouping_take.2.1 25 = .ok (.iload_n 1, 1) := by decide +kernel
theorem d_Grouping_take_26 : decode kY_Grouping_take.2.1 26 = .ok (.iastore, 1) := by decide +kernel
theorem d_Grouping_take_27 : decode kY_Grouping_take.2.1 27 = .ok (.aload_n 0, 1) := by decide +kernel
theorem d_Grouping_take_28 : decode kY_Grouping_take.2.1 28 = .ok (.getfield 15, 3) := by decide +kernel
theorem d_Grouping_take_31 : decode kY_Grouping_take.2.1 31 = .ok (.aload_n 0, 1) := by decide +kernel
theorem d_Grouping_take_32 : decode kY_Grouping_take.2.1 32 = .ok (.getfield 44, 3) := by decide +kernel
theorem d_Grouping_take_35 : decode kY_Grouping_take.2.1 35 = .ok (.lload_n 2, 1) := by decide +kernel
theorem d_Grouping_take_36 : decode kY_Grouping_take.2.1 36 = .ok (.lastore, 1) := by decide +kernel
theorem d_Grouping_take_37 : decode kY_Grouping_take.2.1 37 = .ok (.aload_n 0, 1) := by decide +kernel
theorem d_Grouping_take_38 : decode kY_Grouping_take.2.1 38 = .ok (.getfield 19, 3) := by decide +kernel
theorem d_Grouping_take_41 : decode kY_Grouping_take.2.1 41 = .ok (.aload_n 0, 1) := by decide +kernel
theorem d_Grouping_take_42 : decode kY_Grouping_take.2.1 42 = .ok (.getfield 44, 3) := by decide +kernel
theorem d_Grouping_take_45 : decode kY_Grouping_take.2.1 45 = .ok (.iload 4, 2) := by decide +kernel
theorem d_Grouping_take_47 : decode kY_Grouping_take.2.1 47 = .ok (.iastore, 1) := by decide +kernel
theorem d_Grouping_take_48 : decode kY_Grouping_take.2.1 48 = .ok (.aload_n 0, 1) := by decide +kernel
theorem d_Grouping_take_49 : decode kY_Grouping_take.2.1 49 = .ok (.dup, 1) := by decide +kernel
theorem d_Grouping_take_50 : decode kY_Grouping_take.2.1 50 = .ok (.getfield 44, 3) := by decide +kernel
theorem d_Grouping_take_53 : decode kY_Grouping_take.2.1 53 = .ok (.iconst 1, 1) := by decide +kernel
theorem d_Grouping_take_54 : decode kY_Grouping_take.2.1 54 = .ok (.iadd, 1) := by decide +kernel
theorem d_Grouping_take_55 : decode kY_Grouping_take.2.1 55 = .ok (.putfield 44, 3) := by decide +kernel
theorem d_Grouping_take_58 : decode kY_Grouping_take.2.1 58 = .ok (.return_, 1) := by decide +kernel
def w_Grouping_take : List Nat := [702, 754, 755, 756]
theorem tc_Grouping_take {g : mj_G} {l : Launch} {d : Nat} {T0 : tm_H} {M0 : mj_M} {n0 x9 : Nat} {o0 : Nat} {x1 : Int32} {x2 : Int64} {x3 : Int32} (h_o0 : T0 o0 = some (0, 7, 0)) (I0 : tm_I tm_FT (tm_in w_Grouping_take) x9 T0 M0 n0 T0 M0 n0) : mj_Met g l kY_Grouping_take d [.ref o0, .int x1, .long x2, .int x3] M0 n0 0 0 (tm_Q tm_FT (tm_in w_Grouping_take) x9 T0 M0 n0 (fun r _ _ => r = none)) := by
  refine mj_enter (by decide) (Nat.le_of_ble_eq_true rfl) ?_
  refine mv_aload_n d_Grouping_take_0 rfl rfl ?_
  obtain ⟨v2, q1⟩ := tm_atI I0 h_o0 (k := 2) rfl
  refine tr_getK q1 d_Grouping_take_1 f_Grouping_44_7 ?_
  have := mz_hi v2
  refine mv_if_ltZ (tgt := 16) (a := v2.toInt) d_Grouping_take_4 (by decide) rfl (fun b3 => ?_) (fun b3 => ?_)
  · exact mv_vret d_Grouping_take_16 rfl ⟨_, I0, rfl⟩
  · refine mv_aload_n d_Grouping_take_7 rfl rfl ?_
    refine tr_getK (k := 2) q1 d_Grouping_take_8 f_Grouping_44_7 ?_
    refine mv_bipush (v := 8) d_Grouping_take_11 (by decide) ?_
    have := mz_hi v2
    refine mv_icmp_ltZ (tgt := 17) (a := v2.toInt) (b := 8) d_Grouping_take_13 (by decide) rfl (by decide) (fun b4 => ?_) (fun b4 => ?_)
    · refine mv_aload_n d_Grouping_take_17 rfl rfl ?_
      obtain ⟨a6, q5, t_a6⟩ := tm_atR I0 h_o0 (k := 4) rfl
      refine tr_getK q5 d_Grouping_take_18 f_Grouping_9_7 ?_
      refine mv_aload_n d_Grouping_take_21 rfl rfl ?_
      refine tr_getK (k := 2) q1 d_Grouping_take_22 f_Grouping_44_7 ?_
      refine mv_iload_n d_Grouping_take_25 rfl rfl ?_
      refine tr_iastK tm_okF I0 t_a6 (by decide) (Or.inl (by decide)) d_Grouping_take_26 (vp_in_iff.mpr (by omega)) (fun M7 I8 K9 => ?_)
      refine mv_aload_n d_Grouping_take_27 rfl rfl ?_
      obtain ⟨a11, q10, t_a11⟩ := tm_atR I8 h_o0 (k := 5) rfl
      refine tr_getK q10 d_Grouping_take_28 f_Grouping_15_7 ?_
      refine mv_aload_n d_Grouping_take_31 rfl rfl ?_
      refine tr_getK (k := 2) (K9 _ 7 2 _ q1) d_Grouping_take_32 f_Grouping_44_7 ?_
      refine mv_lload_n d_Grouping_take_35 rfl rfl ?_
      refine tr_lastK tm_okF I8 t_a11 (by decide) (Or.inl (by decide)) d_Grouping_take_36 (vp_in_iff.mpr (by omega)) (fun M12 I13 K14 => ?_)
      refine mv_aload_n d_Grouping_take_37 rfl rfl ?_
      obtain ⟨a16, q15, t_a16⟩ := tm_atR I13 h_o0 (k := 6) rfl
      refine tr_getK q15 d_Grouping_take_38 f_Grouping_19_7 ?_
      refine mv_aload_n d_Grouping_take_41 rfl rfl ?_
      refine tr_getK (k := 2) (K14 _ 7 2 _ (K9 _ 7 2 _ q1)) d_Grouping_take_42 f_Grouping_44_7 ?_
      refine mv_iload d_Grouping_take_45 rfl ?_
      refine tr_iastK tm_okF I13 t_a16 (by decide) (Or.inl (by decide)) d_Grouping_take_47 (vp_in_iff.mpr (by omega)) (fun M17 I18 K19 => ?_)
      refine mv_aload_n d_Grouping_take_48 rfl rfl ?_
      refine mv_dup d_Grouping_take_49 rfl ?_
      refine tr_getK (k := 2) (K19 _ 7 2 _ (K14 _ 7 2 _ (K9 _ 7 2 _ q1))) d_Grouping_take_50 f_Grouping_44_7 ?_
      refine mv_iconst (v := 1) d_Grouping_take_53 (by decide) ?_
      refine mv_iadd d_Grouping_take_54 ?_
      refine tr_putK tm_okF I18 h_o0 (k := 2) rfl ⟨_, rfl⟩ (Or.inl (by decide)) d_Grouping_take_55 p_Grouping_44_7 rfl rfl (fun M20 I21 q22 K23 => ?_)
      exact mv_vret d_Grouping_take_58 rfl ⟨_, I21, rfl⟩
    · exact mv_vret d_Grouping_take_16 rfl ⟨_, I0, rfl⟩
abbrev kY_Reader_advance : mj_Y := (⟨"TrustDesk$Reader", "advance", "()V"⟩, prog_10_method_32_code, 2, (Option.none : Option Jvm.ClassFile.FieldType))
theorem d_Reader_advance_0 : decode kY_Reader_advance.2.1 0 = .ok (.aload_n 0, 1) := by decide +kernel
theorem d_Reader_advance_1 : decode kY_Reader_advance.2.1 1 = .ok (.dup, 1) := by decide +kernel
theorem d_Reader_advance_2 : decode kY_Reader_advance.2.1 2 = .ok (.getfield 79, 3) := by decide +kernel
theorem f_Reader_79_9 : mj_fl "TrustDesk$Reader" 79 9 9 := ⟨kR_Reader, kF_Reader, 19, "TrustDesk$Reader", rfl, kg_9, by decide, (mj_in1 (List.mem_of_getElem? (i := 81) (by decide +kernel)) rfl), Or.inl rfl⟩
theorem d_Reader_advance_5 : decode kY_Reader_advance.2.1 5 = .ok (.iconst 1, 1) := by decide +kernel
theorem d_Reader_advance_6 : decode kY_Reader_advance.2.1 6 = .ok (.iadd, 1) := by decide +kernel
theorem d_Reader_advance_7 : decode kY_Reader_advance.2.1 7 = .ok (.putfield 79, 3) := by decide +kernel
theorem p_Reader_79_9 : mj_fp "TrustDesk$Reader" 79 9 9 (kt_Reader 9) false := ⟨kR_Reader, kF_Reader, 19, "TrustDesk$Reader", kt_Reader, rfl, kg_9, by decide, (mj_in1 (List.mem_of_getElem? (i := 81) (by decide +kernel)) rfl), Or.inl rfl, kto_Reader, kn_Reader, rfl, rfl, fun h => by cases h⟩
theorem d_Reader_advance_10 : decode kY_Reader_advance.2.1 10 = .ok (.aload_n 0, 1) := by decide +kernel
theorem d_Reader_advance_11 : decode kY_Reader_advance.2.1 11 = .ok (.getfield 79, 3) := by decide +kernel
theorem d_Reader_advance_14 : decode kY_Reader_advance.2.1 14 = .ok (.ifCond .lt 28, 3) := by decide +kernel
theorem d_Reader_advance_42 : decode kY_Reader_advance.2.1 42 = .ok (.iconst 0, 1) := by decide +kernel
theorem d_Reader_advance_43 : decode kY_Reader_advance.2.1 43 = .ok (.istore_n 1, 1) := by decide +kernel
theorem d_Reader_advance_44 : decode kY_Reader_advance.2.1 44 = .ok (.aload_n 0, 1) := by decide +kernel
theorem d_Reader_advance_45 : decode kY_Reader_advance.2.1 45 = .ok (.iload_n 1, 1) := by decide +kernel
theorem d_Reader_advance_46 : decode kY_Reader_advance.2.1 46 = .ok (.ifCond .eq 15, 3) := by decide +kernel
theorem d_Reader_advance_61 : decode kY_Reader_advance.2.1 61 = .ok (.iconst 0, 1) := by decide +kernel
theorem d_Reader_advance_62 : decode kY_Reader_advance.2.1 62 = .ok (.putfield 41, 3) := by decide +kernel
theorem p_Reader_41_9 : mj_fp "TrustDesk$Reader" 41 9 10 (kt_Reader 10) false := ⟨kR_Reader, kF_Reader, 19, "TrustDesk$Reader", kt_Reader, rfl, kg_9, by decide, (mj_in1 (List.mem_of_getElem? (i := 82) (by decide +kernel)) rfl), Or.inl rfl, kto_Reader, kn_Reader, rfl, rfl, fun h => by cases h⟩
theorem d_Reader_advance_65 : decode kY_Reader_advance.2.1 65 = .ok (.aload_n 0, 1) := by decide +kernel
theorem d_Reader_advance_66 : decode kY_Reader_advance.2.1 66 = .ok (.iload_n 1, 1) := by decide +kernel
theorem d_Reader_advance_67 : decode kY_Reader_advance.2.1 67 = .ok (.ifCond .eq 15, 3) := by decide +kernel
theorem d_Reader_advance_82 : decode kY_Reader_advance.2.1 82 = .ok (.aload_n 0, 1) := by decide +kernel
theorem d_Reader_advance_83 : decode kY_Reader_advance.2.1 83 = .ok (.getfield 34, 3) := by decide +kernel
theorem f_Reader_34_9 : mj_fl "TrustDesk$Reader" 34 9 0 := ⟨kR_Reader, kF_Reader, 19, "TrustDesk$Reader", rfl, kg_9, by decide, (mj_in1 (List.mem_of_getElem? (i := 69) (by decide +kernel)) rfl), Or.inl rfl⟩
theorem d_Reader_advance_86 : decode kY_Reader_advance.2.1 86 = .ok (.putfield 175, 3) := by decide +kernel
theorem p_Reader_175_9 : mj_fp "TrustDesk$Reader" 175 9 11 (kt_Reader 11) false := ⟨kR_Reader, kF_Reader, 19, "TrustDesk$Reader", kt_Reader, rfl, kg_9, by decide, (mj_in1 (List.mem_of_getElem? (i := 83) (by decide +kernel)) rfl), Or.inl rfl, kto_Reader, kn_Reader, rfl, rfl, fun h => by cases h⟩
theorem d_Reader_advance_89 : decode kY_Reader_advance.2.1 89 = .ok (.aload_n 0, 1) := by decide +kernel
theorem d_Reader_advance_90 : decode kY_Reader_advance.2.1 90 = .ok (.iload_n 1, 1) := by decide +kernel
theorem d_Reader_advance_91 : decode kY_Reader_advance.2.1 91 = .ok (.ifCond .eq 15, 3) := by decide +kernel
theorem d_Reader_advance_106 : decode kY_Reader_advance.2.1 106 = .ok (.aload_n 0, 1) := by decide +kernel
theorem d_Reader_advance_107 : decode kY_Reader_advance.2.1 107 = .ok (.getfield 34, 3) := by decide +kernel
theorem d_Reader_advance_110 : decode kY_Reader_advance.2.1 110 = .ok (.putfield 172, 3) := by decide +kernel
theorem p_Reader_172_9 : mj_fp "TrustDesk$Reader" 172 9 12 (kt_Reader 12) false := ⟨kR_Reader, kF_Reader, 19, "TrustDesk$Reader", kt_Reader, rfl, kg_9, by decide, (mj_in1 (List.mem_of_getElem? (i := 84) (by decide +kernel)) rfl), Or.inl rfl, kto_Reader, kn_Reader, rfl, rfl, fun h => by cases h⟩
theorem d_Reader_advance_113 : decode kY_Reader_advance.2.1 113 = .ok (.aload_n 0, 1) := by decide +kernel
theorem d_Reader_advance_114 : decode kY_Reader_advance.2.1 114 = .ok (.iload_n 1, 1) := by decide +kernel
theorem d_Reader_advance_115 : decode kY_Reader_advance.2.1 115 = .ok (.ifCond .eq 15, 3) := by decide +kernel
theorem d_Reader_advance_130 : decode kY_Reader_advance.2.1 130 = .ok (.iconst (-1), 1) := by decide +kernel
theorem d_Reader_advance_131 : decode kY_Reader_advance.2.1 131 = .ok (.putfield 241, 3) := by decide +kernel
theorem p_Reader_241_9 : mj_fp "TrustDesk$Reader" 241 9 13 (kt_Reader 13) false := ⟨kR_Reader, kF_Reader, 19, "TrustDesk$Reader", kt_Reader, rfl, kg_9, by decide, (mj_in1 (List.mem_of_getElem? (i := 85) (by decide +kernel)) rfl), Or.inl rfl, kto_Reader, kn_Reader, rfl, rfl, fun h => by cases h⟩
theorem d_Reader_advance_134 : decode kY_Reader_advance.2.1 134 = .ok (.return_, 1) := by decide +kernel
theorem d_Reader_advance_17 : decode kY_Reader_advance.2.1 17 = .ok (.aload_n 0, 1) := by decide +kernel
theorem d_Reader_advance_18 : decode kY_Reader_advance.2.1 18 = .ok (.getfield 79, 3) := by decide +kernel
theorem d_Reader_advance_21 : decode kY_Reader_advance.2.1 21 = .ok (.aload_n 0, 1) := by decide +kernel
theorem d_Reader_advance_22 : decode kY_Reader_advance.2.1 22 = .ok (.getfield 244, 3) := by decide +kernel
theorem f_Reader_244_9 : mj_fl "TrustDesk$Reader" 244 9 8 := ⟨kR_Reader, kF_Reader, 19, "TrustDesk$Reader", rfl, kg_9, by decide, (mj_in1 (List.mem_of_getElem? (i := 80) (by decide +kernel)) rfl), Or.inl rfl⟩
theorem d_Reader_advance_25 : decode kY_Reader_advance.2.1 25 = .ok (.if_icmp .ge 17, 3) := by decide +kernel
theorem d_Reader_advance_28 : decode kY_Reader_advance.2.1 28 = .ok (.aload_n 0, 1) := by decide +kernel
theorem d_Reader_advance_29 : decode kY_Reader_advance.2.1 29 = .ok (.getfield 79, 3) := by decide +kernel
theorem d_Reader_advance_32 : decode kY_Reader_advance.2.1 32 = .ok (.sipush 400, 3) := by decide +kernel
theorem d_Reader_advance_35 : decode kY_Reader_advance.2.1 35 = .ok (.if_icmp .ge 7, 3) := by decide +kernel
theorem d_Reader_advance_38 : decode kY_Reader_advance.2.1 38 = .ok (.iconst 1, 1) := by decide +kernel
theorem d_Reader_advance_39 : decode kY_Reader_advance.2.1 39 = .ok (.goto 4, 3) := by decide +kernel
theorem d_Reader_advance_49 : decode kY_Reader_advance.2.1 49 = .ok (.aload_n 0, 1) := by decide +kernel
theorem d_Reader_advance_50 : decode kY_Reader_advance.2.1 50 = .ok (.getfield 19, 3) := by decide +kernel
theorem f_Reader_19_9 : mj_fl "TrustDesk$Reader" 19 9 4 := ⟨kR_Reader, kF_Reader, 19, "TrustDesk$Reader", rfl, kg_9, by decide, (mj_in1 (List.mem_of_getElem? (i := 76) (by decide +kernel)) rfl), Or.inl rfl⟩
theorem d_Reader_advance_53 : decode kY_Reader_advance.2.1 53 = .ok (.aload_n 0, 1) := by decide +kernel
theorem d_Reader_advance_54 : decode kY_Reader_advance.2.1 54 = .ok (.getfield 79, 3) := by decide +kernel
theorem d_Reader_advance_57 : decode kY_Reader_advance.2.1 57 = .ok (.iaload, 1) := by decide +kernel
theorem d_Reader_advance_58 : decode kY_Reader_advance.2.1 58 = .ok (.goto 4, 3) := by decide +kernel
theorem d_Reader_advance_70 : decode kY_Reader_advance.2.1 70 = .ok (.aload_n 0, 1) := by decide +kernel
theorem d_Reader_advance_71 : decode kY_Reader_advance.2.1 71 = .ok (.getfield 22, 3) := by decide +kernel
theorem f_Reader_22_9 : mj_fl "TrustDesk$Reader" 22 9 5 := ⟨kR_Reader, kF_Reader, 19, "TrustDesk$Reader", rfl, kg_9, by decide, (mj_in1 (List.mem_of_getElem? (i := 77) (by decide +kernel)) rfl), Or.inl rfl⟩
theorem d_Reader_advance_74 : decode kY_Reader_advance.2.1 74 = .ok (.aload_n 0, 1) := by decide +kernel
theorem d_Reader_advance_75 : decode kY_Reader_advance.2.1 75 = .ok (.getfield 79, 3) := by decide +kernel
theorem d_Reader_advance_78 : decode kY_Reader_advance.2.1 78 = .ok (.iaload, 1) := by decide +kernel
theorem d_Reader_advance_79 : decode kY_Reader_advance.2.1 79 = .ok (.goto 7, 3) := by decide +kernel
theorem d_Reader_advance_94 : decode kY_Reader_advance.2.1 94 = .ok (.aload_n 0, 1) := by decide +kernel
theorem d_Reader_advance_95 : decode kY_Reader_advance.2.1 95 = .ok (.getfield 25, 3) := by decide +kernel
theorem f_Reader_25_9 : mj_fl "TrustDesk$Reader" 25 9 6 := ⟨kR_Reader, kF_Reader, 19, "TrustDesk$Reader", rfl, kg_9, by decide, (mj_in1 (List.mem_of_getElem? (i := 78) (by decide +kernel)) rfl), Or.inl rfl⟩
theorem d_Reader_advance_98 : decode kY_Reader_advance.2.1 98 = .ok (.aload_n 0, 1) := by decide +kernel
theorem d_Reader_advance_99 : decode kY_Reader_advance.2.1 99 = .ok (.getfield 79, 3) := by decide +kernel
theorem d_Reader_advance_102 : decode kY_Reader_advance.2.1 102 = .ok (.iaload, 1) := by decide +kernel
theorem d_Reader_advance_103 : decode kY_Reader_advance.2.1 103 = .ok (.goto 7, 3) := by decide +kernel
theorem d_Reader_advance_118 : decode kY_Reader_advance.2.1 118 = .ok (.aload_n 0, 1) := by decide +kernel
theorem d_Reader_advance_119 : decode kY_Reader_advance.2.1 119 = .ok (.getfield 28, 3) := by decide +kernel
theorem f_Reader_28_9 : mj_fl "TrustDesk$Reader" 28 9 7 := ⟨kR_Reader, kF_Reader, 19, "TrustDesk$Reader", rfl, kg_9, by decide, (mj_in1 (List.mem_of_getElem? (i := 79) (by decide +kernel)) rfl), Or.inl rfl⟩
theorem d_Reader_advance_122 : decode kY_Reader_advance.2.1 122 = .ok (.aload_n 0, 1) := by decide +kernel
theorem d_Reader_advance_123 : decode kY_Reader_advance.2.1 123 = .ok (.getfield 79, 3) := by decide +kernel
theorem d_Reader_advance_126 : decode kY_Reader_advance.2.1 126 = .ok (.iaload, 1) := by decide +kernel
theorem d_Reader_advance_127 : decode kY_Reader_advance.2.1 127 = .ok (.goto 4, 3) := by decide +kernel
def w_Reader_advance : List Nat := [909, 910, 911, 912, 913]
theorem tc_Reader_advance {g : mj_G} {l : Launch} {d : Nat} {T0 : tm_H} {M0 : mj_M} {n0 x9 : Nat} {o0 : Nat} (h_o0 : T0 o0 = some (0, 9, 0)) (I0 : tm_I tm_FT (tm_in w_Reader_advance) x9 T0 M0 n0 T0 M0 n0) : mj_Met g l kY_Reader_advance d [.ref o0] M0 n0 0 0 (tm_Q tm_FT (tm_in w_Reader_advance) x9 T0 M0 n0 (fun r _ _ => r = none)) := by
  refine mj_enter (by decide) (Nat.le_of_ble_eq_true rfl) ?_
  refine mv_aload_n d_Reader_advance_0 rfl rfl ?_
  refine mv_dup d_Reader_advance_1 rfl ?_
  obtain ⟨v2, q1⟩ := tm_atI I0 h_o0 (k := 9) rfl
  refine tr_getK q1 d_Reader_advance_2 f_Reader_79_9 ?_
  refine mv_iconst (v := 1) d_Reader_advance_5 (by decide) ?_
  refine mv_iadd d_Reader_advance_6 ?_
  refine tr_putK tm_okF I0 h_o0 (k := 9) rfl ⟨_, rfl⟩ (Or.inl (by decide)) d_Reader_advance_7 p_Reader_79_9 rfl rfl (fun M3 I4 q5 K6 => ?_)
  refine mv_aload_n d_Reader_advance_10 rfl rfl ?_
  refine tr_getK (k := 9) q5 d_Reader_advance_11 f_Reader_79_9 ?_
  have := mz_hi (v2 + 1)
  refine mv_if_ltZ (tgt := 42) (a := (v2 + 1).toInt) d_Reader_advance_14 (by decide) rfl (fun b7 => ?_) (fun b7 => ?_)
  · refine mv_iconst (v := 0) d_Reader_advance_42 (by decide) ?_
    refine mv_istore_n (lv' := [(1, .int 0), (0, .ref o0)]) d_Reader_advance_43 rfl (by decide) rfl ?_
    refine mv_aload_n d_Reader_advance_44 rfl rfl ?_
    refine mv_iload_n d_Reader_advance_45 rfl rfl ?_
    refine mv_if_eq_t (tgt := 61) d_Reader_advance_46 (by decide) (by decide) ?_
    refine mv_iconst (v := 0) d_Reader_advance_61 (by decide) ?_
    refine tr_putK tm_okF I4 h_o0 (k := 10) rfl ⟨_, rfl⟩ (Or.inl (by decide)) d_Reader_advance_62 p_Reader_41_9 rfl rfl (fun M8 I9 q10 K11 => ?_)
    refine mv_aload_n d_Reader_advance_65 rfl rfl ?_
    refine mv_iload_n d_Reader_advance_66 rfl rfl ?_
    refine mv_if_eq_t (tgt := 82) d_Reader_advance_67 (by decide) (by decide) ?_
    refine mv_aload_n d_Reader_advance_82 rfl rfl ?_
    obtain ⟨v13, q12⟩ := tm_atI I9 h_o0 (k := 0) rfl
    refine tr_getK q12 d_Reader_advance_83 f_Reader_34_9 ?_
    refine tr_putK tm_okF I9 h_o0 (k := 11) rfl ⟨_, rfl⟩ (Or.inl (by decide)) d_Reader_advance_86 p_Reader_175_9 rfl rfl (fun M14 I15 q16 K17 => ?_)
    refine mv_aload_n d_Reader_advance_89 rfl rfl ?_
    refine mv_iload_n d_Reader_advance_90 rfl rfl ?_
    refine mv_if_eq_t (tgt := 106) d_Reader_advance_91 (by decide) (by decide) ?_
    refine mv_aload_n d_Reader_advance_106 rfl rfl ?_
    refine tr_getK (k := 0) (K17 _ 9 0 _ rfl q12) d_Reader_advance_107 f_Reader_34_9 ?_
    refine tr_putK tm_okF I15 h_o0 (k := 12) rfl ⟨_, rfl⟩ (Or.inl (by decide)) d_Reader_advance_110 p_Reader_172_9 rfl rfl (fun M18 I19 q20 K21 => ?_)
    refine mv_aload_n d_Reader_advance_113 rfl rfl ?_
    refine mv_iload_n d_Reader_advance_114 rfl rfl ?_
    refine mv_if_eq_t (tgt := 130) d_Reader_advance_115 (by decide) (by decide) ?_
    refine mv_iconst (v := (-1)) d_Reader_advance_130 (by decide) ?_
    refine tr_putK tm_okF I19 h_o0 (k := 13) rfl ⟨_, rfl⟩ (Or.inl (by decide)) d_Reader_advance_131 p_Reader_241_9 rfl rfl (fun M22 I23 q24 K25 => ?_)
    exact mv_vret d_Reader_advance_134 rfl ⟨_, I23, rfl⟩
  · refine mv_aload_n d_Reader_advance_17 rfl rfl ?_
    refine tr_getK (k := 9) q5 d_Reader_advance_18 f_Reader_79_9 ?_
    refine mv_aload_n d_Reader_advance_21 rfl rfl ?_
    obtain ⟨v27, q26⟩ := tm_atI I4 h_o0 (k := 8) rfl
    refine tr_getK q26 d_Reader_advance_22 f_Reader_244_9 ?_
    have := mz_hi (v2 + 1)
    have := mz_hi v27
    refine mv_icmp_geZ (tgt := 42) (a := (v2 + 1).toInt) (b := v27.toInt) d_Reader_advance_25 (by decide) rfl rfl (fun b28 => ?_) (fun b28 => ?_)
    · refine mv_iconst (v := 0) d_Reader_advance_42 (by decide) ?_
      refine mv_istore_n (lv' := [(1, .int 0), (0, .ref o0)]) d_Reader_advance_43 rfl (by decide) rfl ?_
      refine mv_aload_n d_Reader_advance_44 rfl rfl ?_
      refine mv_iload_n d_Reader_advance_45 rfl rfl ?_
      refine mv_if_eq_t (tgt := 61) d_Reader_advance_46 (by decide) (by decide) ?_
      refine mv_iconst (v := 0) d_Reader_advance_61 (by decide) ?_
      refine tr_putK tm_okF I4 h_o0 (k := 10) rfl ⟨_, rfl⟩ (Or.inl (by decide)) d_Reader_advance_62 p_Reader_41_9 rfl rfl (fun M29 I30 q31 K32 => ?_)
      refine mv_aload_n d_Reader_advance_65 rfl rfl ?_
      refine mv_iload_n d_Reader_advance_66 rfl rfl ?_
      refine mv_if_eq_t (tgt := 82) d_Reader_advance_67 (by decide) (by decide) ?_
      refine mv_aload_n d_Reader_advance_82 rfl rfl ?_
      obtain ⟨v34, q33⟩ := tm_atI I30 h_o0 (k := 0) rfl
      refine tr_getK q33 d_Reader_advance_83 f_Reader_34_9 ?_
      refine tr_putK tm_okF I30 h_o0 (k := 11) rfl ⟨_, rfl⟩ (Or.inl (by decide)) d_Reader_advance_86 p_Reader_175_9 rfl rfl (fun M35 I36 q37 K38 => ?_)
      refine mv_aload_n d_Reader_advance_89 rfl rfl ?_
      refine mv_iload_n d_Reader_advance_90 rfl rfl ?_
      refine mv_if_eq_t (tgt := 106) d_Reader_advance_91 (by decide) (by decide) ?_
      refine mv_aload_n d_Reader_advance_106 rfl rfl ?_
      refine tr_getK (k := 0) (K38 _ 9 0 _ rfl q33) d_Reader_advance_107 f_Reader_34_9 ?_
      refine tr_putK tm_okF I36 h_o0 (k := 12) rfl ⟨_, rfl⟩ (Or.inl (by decide)) d_Reader_advance_110 p_Reader_172_9 rfl rfl (fun M39 I40 q41 K42 => ?_)
      refine mv_aload_n d_Reader_advance_113 rfl rfl ?_
      refine mv_iload_n d_Reader_advance_114 rfl rfl ?_
      refine mv_if_eq_t (tgt := 130) d_Reader_advance_115 (by decide) (by decide) ?_
      refine mv_iconst (v := (-1)) d_Reader_advance_130 (by decide) ?_
      refine tr_putK tm_okF I40 h_o0 (k := 13) rfl ⟨_, rfl⟩ (Or.inl (by decide)) d_Reader_advance_131 p_Reader_241_9 rfl rfl (fun M43 I44 q45 K46 => ?_)
      exact mv_vret d_Reader_advance_134 rfl ⟨_, I44, rfl⟩
    · refine mv_aload_n d_Reader_advance_28 rfl rfl ?_
      refine tr_getK (k := 9) q5 d_Reader_advance_29 f_Reader_79_9 ?_
      refine mv_sipush (v := 400) d_Reader_advance_32 (by decide) ?_
      have := mz_hi (v2 + 1)
      refine mv_icmp_geZ (tgt := 42) (a := (v2 + 1).toInt) (b := 400) d_Reader_advance_35 (by decide) rfl (by decide) (fun b47 => ?_) (fun b47 => ?_)
      · refine mv_iconst (v := 0) d_Reader_advance_42 (by decide) ?_
        refine mv_istore_n (lv' := [(1, .int 0), (0, .ref o0)]) d_Reader_advance_43 rfl (by decide) rfl ?_
        refine mv_aload_n d_Reader_advance_44 rfl rfl ?_
        refine mv_iload_n d_Reader_advance_45 rfl rfl ?_
        refine mv_if_eq_t (tgt := 61) d_Reader_advance_46 (by decide) (by decide) ?_
        refine mv_iconst (v := 0) d_Reader_advance_61 (by decide) ?_
        refine tr_putK tm_okF I4 h_o0 (k := 10) rfl ⟨_, rfl⟩ (Or.inl (by decide)) d_Reader_advance_62 p_Reader_41_9 rfl rfl (fun M48 I49 q50 K51 => ?_)
        refine mv_aload_n d_Reader_advance_65 rfl rfl ?_
        refine mv_iload_n d_Reader_advance_66 rfl rfl ?_
        refine mv_if_eq_t (tgt := 82) d_Reader_advance_67 (by decide) (by decide) ?_
        refine mv_aload_n d_Reader_advance_82 rfl rfl ?_
        obtain ⟨v53, q52⟩ := tm_atI I49 h_o0 (k := 0) rfl
        refine tr_getK q52 d_Reader_advance_83 f_Reader_34_9 ?_
        refine tr_putK tm_okF I49 h_o0 (k := 11) rfl ⟨_, rfl⟩ (Or.inl (by decide)) d_Reader_advance_86 p_Reader_175_9 rfl rfl (fun M54 I55 q56 K57 => ?_)
        refine mv_aload_n d_Reader_advance_89 rfl rfl ?_
        refine mv_iload_n d_Reader_advance_90 rfl rfl ?_
        refine mv_if_eq_t (tgt := 106) d_Reader_advance_91 (by decide) (by decide) ?_
        refine mv_aload_n d_Reader_advance_106 rfl rfl ?_
        refine tr_getK (k := 0) (K57 _ 9 0 _ rfl q52) d_Reader_advance_107 f_Reader_34_9 ?_
        refine tr_putK tm_okF I55 h_o0 (k := 12) rfl ⟨_, rfl⟩ (Or.inl (by decide)) d_Reader_advance_110 p_Reader_172_9 rfl rfl (fun M58 I59 q60 K61 => ?_)
        refine mv_aload_n d_Reader_advance_113 rfl rfl ?_
        refine mv_iload_n d_Reader_advance_114 rfl rfl ?_
        refine mv_if_eq_t (tgt := 130) d_Reader_advance_115 (by decide) (by decide) ?_
        refine mv_iconst (v := (-1)) d_Reader_advance_130 (by decide) ?_
        refine tr_putK tm_okF I59 h_o0 (k := 13) rfl ⟨_, rfl⟩ (Or.inl (by decide)) d_Reader_advance_131 p_Reader_241_9 rfl rfl (fun M62 I63 q64 K65 => ?_)
        exact mv_vret d_Reader_advance_134 rfl ⟨_, I63, rfl⟩
      · refine mv_iconst (v := 1) d_Reader_advance_38 (by decide) ?_
        refine mv_goto (tgt := 43) d_Reader_advance_39 (by decide) ?_
        refine mv_istore_n (lv' := [(1, .int 1), (0, .ref o0)]) d_Reader_advance_43 rfl (by decide) rfl ?_
        refine mv_aload_n d_Reader_advance_44 rfl rfl ?_
        refine mv_iload_n d_Reader_advance_45 rfl rfl ?_
        refine mv_if_eq_f (tgt := 61) d_Reader_advance_46 (by decide) (by decide) ?_
        refine mv_aload_n d_Reader_advance_49 rfl rfl ?_
        obtain ⟨a67, q66, t_a67⟩ := tm_atR I4 h_o0 (k := 4) rfl
        refine tr_getK q66 d_Reader_advance_50 f_Reader_19_9 ?_
        refine mv_aload_n d_Reader_advance_53 rfl rfl ?_
        refine tr_getK (k := 9) q5 d_Reader_advance_54 f_Reader_79_9 ?_
        refine tr_iald I4 t_a67 (by decide) d_Reader_advance_57 (vp_in_iff.mpr (by omega)) (fun v68 => ?_)
        refine mv_goto (tgt := 62) d_Reader_advance_58 (by decide) ?_
        refine tr_putK tm_okF I4 h_o0 (k := 10) rfl ⟨_, rfl⟩ (Or.inl (by decide)) d_Reader_advance_62 p_Reader_41_9 rfl rfl (fun M69 I70 q71 K72 => ?_)
        refine mv_aload_n d_Reader_advance_65 rfl rfl ?_
        refine mv_iload_n d_Reader_advance_66 rfl rfl ?_
        refine mv_if_eq_f (tgt := 82) d_Reader_advance_67 (by decide) (by decide) ?_
        refine mv_aload_n d_Reader_advance_70 rfl rfl ?_
        obtain ⟨a74, q73, t_a74⟩ := tm_atR I70 h_o0 (k := 5) rfl
        refine tr_getK q73 d_Reader_advance_71 f_Reader_22_9 ?_
        refine mv_aload_n d_Reader_advance_74 rfl rfl ?_
        refine tr_getK (k := 9) (K72 _ 9 9 _ rfl q5) d_Reader_advance_75 f_Reader_79_9 ?_
        refine tr_iald I70 t_a74 (by decide) d_Reader_advance_78 (vp_in_iff.mpr (by omega)) (fun v75 => ?_)
        refine mv_goto (tgt := 86) d_Reader_advance_79 (by decide) ?_
        refine tr_putK tm_okF I70 h_o0 (k := 11) rfl ⟨_, rfl⟩ (Or.inl (by decide)) d_Reader_advance_86 p_Reader_175_9 rfl rfl (fun M76 I77 q78 K79 => ?_)
        refine mv_aload_n d_Reader_advance_89 rfl rfl ?_
        refine mv_iload_n d_Reader_advance_90 rfl rfl ?_
        refine mv_if_eq_f (tgt := 106) d_Reader_advance_91 (by decide) (by decide) ?_
        refine mv_aload_n d_Reader_advance_94 rfl rfl ?_
        obtain ⟨a81, q80, t_a81⟩ := tm_atR I77 h_o0 (k := 6) rfl
        refine tr_getK q80 d_Reader_advance_95 f_Reader_25_9 ?_
        refine mv_aload_n d_Reader_advance_98 rfl rfl ?_
        refine tr_getK (k := 9) (K79 _ 9 9 _ rfl (K72 _ 9 9 _ rfl q5)) d_Reader_advance_99 f_Reader_79_9 ?_
        refine tr_iald I77 t_a81 (by decide) d_Reader_advance_102 (vp_in_iff.mpr (by omega)) (fun v82 => ?_)
        refine mv_goto (tgt := 110) d_Reader_advance_103 (by decide) ?_
        refine tr_putK tm_okF I77 h_o0 (k := 12) rfl ⟨_, rfl⟩ (Or.inl (by decide)) d_Reader_advance_110 p_Reader_172_9 rfl rfl (fun M83 I84 q85 K86 => ?_)
        refine mv_aload_n d_Reader_advance_113 rfl rfl ?_
        refine mv_iload_n d_Reader_advance_114 rfl rfl ?_
        refine mv_if_eq_f (tgt := 130) d_Reader_advance_115 (by decide) (by decide) ?_
        refine mv_aload_n d_Reader_advance_118 rfl rfl ?_
        obtain ⟨a88, q87, t_a88⟩ := tm_atR I84 h_o0 (k := 7) rfl
        refine tr_getK q87 d_Reader_advance_119 f_Reader_28_9 ?_
        refine mv_aload_n d_Reader_advance_122 rfl rfl ?_
        refine tr_getK (k := 9) (K86 _ 9 9 _ rfl (K79 _ 9 9 _ rfl (K72 _ 9 9 _ rfl q5))) d_Reader_advance_123 f_Reader_79_9 ?_
        refine tr_iald I84 t_a88 (by decide) d_Reader_advance_126 (vp_in_iff.mpr (by omega)) (fun v89 => ?_)
        refine mv_goto (tgt := 131) d_Reader_advance_127 (by decide) ?_
        refine tr_putK tm_okF I84 h_o0 (k := 13) rfl ⟨_, rfl⟩ (Or.inl (by decide)) d_Reader_advance_131 p_Reader_241_9 rfl rfl (fun M90 I91 q92 K93 => ?_)
        exact mv_vret d_Reader_advance_134 rfl ⟨_, I91, rfl⟩
abbrev kY_Reader_byteAt : mj_Y := (⟨"TrustDesk$Reader", "byteAt", "(I)I"⟩, prog_10_method_40_code, 2, (Option.some Jvm.ClassFile.FieldType.int))
theorem d_Reader_byteAt_0 : decode kY_Reader_byteAt.2.1 0 = .ok (.iload_n 1, 1) := by decide +kernel
theorem d_Reader_byteAt_1 : decode kY_Reader_byteAt.2.1 1 = .ok (.ifCond .lt 19, 3) := by decide +kernel
theorem d_Reader_byteAt_20 : decode kY_Reader_byteAt.2.1 20 = .ok (.iconst 0, 1) := by decide +kernel
theorem d_Reader_byteAt_21 : decode kY_Reader_byteAt.2.1 21 = .ok (.ireturn, 1) := by decide +kernel
theorem d_Reader_byteAt_4 : decode kY_Reader_byteAt.2.1 4 = .ok (.iload_n 1, 1) := by decide +kernel
theorem d_Reader_byteAt_5 : decode kY_Reader_byteAt.2.1 5 = .ok (.sipush 400, 3) := by decide +kernel
theorem d_Reader_byteAt_8 : decode kY_Reader_byteAt.2.1 8 = .ok (.if_icmp .ge 12, 3) := by decide +kernel
theorem d_Reader_byteAt_11 : decode kY_Reader_byteAt.2.1 11 = .ok (.aload_n 0, 1) := by decide +kernel
theorem d_Reader_byteAt_12 : decode kY_Reader_byteAt.2.1 12 = .ok (.getfield 15, 3) := by decide +kernel
theorem f_Reader_15_9 : mj_fl "TrustDesk$Reader" 15 9 3 := ⟨kR_Reader, kF_Reader, 19, "TrustDesk$Reader", rfl, kg_9, by decide, (mj_in1 (List.mem_of_getElem? (i := 75) (by decide +kernel)) rfl), Or.inl rfl⟩
theorem d_Reader_byteAt_15 : decode kY_Reader_byteAt.2.1 15 = .ok (.iload_n 1, 1) := by decide +kernel
theorem d_Reader_byteAt_16 : decode kY_Reader_byteAt.2.1 16 = .ok (.iaload, 1) := by decide +kernel
theorem d_Reader_byteAt_17 : decode kY_Reader_byteAt.2.1 17 = .ok (.goto 4, 3) := by decide +kernel
def w_Reader_byteAt : List Nat := []
theorem tc_Reader_byteAt {g : mj_G} {l : Launch} {d : Nat} {T0 : tm_H} {M0 : mj_M} {n0 x9 : Nat} {o0 : Nat} {x1 : Int32} (h_o0 : T0 o0 = some (0, 9, 0)) (I0 : tm_I tm_FT (tm_in w_Reader_byteAt) x9 T0 M0 n0 T0 M0 n0) : mj_Met g l kY_Reader_byteAt d [.ref o0, .int x1] M0 n0 0 0 (tm_Q tm_FT (tm_in w_Reader_byteAt) x9 T0 M0 n0 (fun r _ _ => ∃ v : Int32, r = some (.int v))) := by
  refine mj_enter (by decide) (Nat.le_of_ble_eq_true rfl) ?_
  refine mv_iload_n d_Reader_byteAt_0 rfl rfl ?_
  have := mz_hi x1
  refine mv_if_ltZ (tgt := 20) (a := x1.toInt) d_Reader_byteAt_1 (by decide) rfl (fun b1 => ?_) (fun b1 => ?_)
  · refine mv_iconst (v := 0) d_Reader_byteAt_20 (by decide) ?_
    exact mv_iret d_Reader_byteAt_21 rfl (by first | rfl | decide) ⟨_, I0, _, rfl⟩
  · refine mv_iload_n d_Reader_byteAt_4 rfl rfl ?_
    refine mv_sipush (v := 400) d_Reader_byteAt_5 (by decide) ?_
    have := mz_hi x1
    refine mv_icmp_geZ (tgt := 20) (a := x1.toInt) (b := 400) d_Reader_byteAt_8 (by decide) rfl (by decide) (fun b2 => ?_) (fun b2 => ?_)
    · refine mv_iconst (v := 0) d_Reader_byteAt_20 (by decide) ?_
      exact mv_iret d_Reader_byteAt_21 rfl (by first | rfl | decide) ⟨_, I0, _, rfl⟩
    · refine mv_aload_n d_Reader_byteAt_11 rfl rfl ?_
      obtain ⟨a4, q3, t_a4⟩ := tm_atR I0 h_o0 (k := 3) rfl
      refine tr_getK q3 d_Reader_byteAt_12 f_Reader_15_9 ?_
      refine mv_iload_n d_Reader_byteAt_15 rfl rfl ?_
      refine tr_iald I0 t_a4 (by decide) d_Reader_byteAt_16 (vp_in_iff.mpr (by omega)) (fun v5 => ?_)
      refine mv_goto (tgt := 21) d_Reader_byteAt_17 (by decide) ?_
      exact mv_iret d_Reader_byteAt_21 rfl (by first | rfl | decide) ⟨_, I0, _, rfl⟩
abbrev kY_Reader_comparisonHere : mj_Y := (⟨"TrustDesk$Reader", "comparisonHere", "()I"⟩, prog_10_method_18_code, 1, (Option.some Jvm.ClassFile.FieldType.int))
theorem d_Reader_comparisonHere_0 : decode kY_Reader_comparisonHere.2.1 0 = .ok (.aload_n 0, 1) := by decide +kernel
theorem d_Reader_comparisonHere_1 : decode kY_Reader_comparisonHere.2.1 1 = .ok (.bipush 60, 2) := by decide +kernel
theorem d_Reader_comparisonHere_3 : decode kY_Reader_comparisonHere.2.1 3 = .ok (.invokevirtual 209, 3) := by decide +kernel
abbrev kY_Reader_isSign : mj_Y := (⟨"TrustDesk$Reader", "isSign", "(C)Z"⟩, prog_10_method_30_code, 2, (Option.some Jvm.ClassFile.FieldType.boolean))
theorem d_Reader_isSign_0 : decode kY_Reader_isSign.2.1 0 = .ok (.aload_n 0, 1) := by decide +kernel
theorem d_Reader_isSign_1 : decode kY_Reader_isSign.2.1 1 = .ok (.getfield 41, 3) := by decide +kernel
theorem f_Reader_41_9 : mj_fl "TrustDesk$Reader" 41 9 10 := ⟨kR_Reader, kF_Reader, 19, "TrustDesk$Reader", rfl, kg_9, by decide, (mj_in1 (List.mem_of_getElem? (i := 82) (by decide +kernel)) rfl), Or.inl rfl⟩
theorem d_Reader_isSign_4 : decode kY_Reader_isSign.2.1 4 = .ok (.iconst 3, 1) := by decide +kernel
theorem d_Reader_isSign_5 : decode kY_Reader_isSign.2.1 5 = .ok (.if_icmp .ne 15, 3) := by decide +kernel
theorem d_Reader_isSign_20 : decode kY_Reader_isSign.2.1 20 = .ok (.iconst 0, 1) := by decide +kernel
theorem d_Reader_isSign_21 : decode kY_Reader_isSign.2.1 21 = .ok (.ireturn, 1) := by decide +kernel
theorem d_Reader_isSign_8 : decode kY_Reader_isSign.2.1 8 = .ok (.aload_n 0, 1) := by decide +kernel
theorem d_Reader_isSign_9 : decode kY_Reader_isSign.2.1 9 = .ok (.getfield 241, 3) := by decide +kernel
theorem f_Reader_241_9 : mj_fl "TrustDesk$Reader" 241 9 13 := ⟨kR_Reader, kF_Reader, 19, "TrustDesk$Reader", rfl, kg_9, by decide, (mj_in1 (List.mem_of_getElem? (i := 85) (by decide +kernel)) rfl), Or.inl rfl⟩
theorem d_Reader_isSign_12 : decode kY_Reader_isSign.2.1 12 = .ok (.iload_n 1, 1) := by decide +kernel
theorem d_Reader_isSign_13 : decode kY_Reader_isSign.2.1 13 = .ok (.if_icmp .ne 7, 3) := by decide +kernel
theorem d_Reader_isSign_16 : decode kY_Reader_isSign.2.1 16 = .ok (.iconst 1, 1) := by decide +kernel
theorem d_Reader_isSign_17 : decode kY_Reader_isSign.2.1 17 = .ok (.goto 4, 3) := by decide +kernel
def w_Reader_isSign : List Nat := []
theorem tc_Reader_isSign {g : mj_G} {l : Launch} {d : Nat} {T0 : tm_H} {M0 : mj_M} {n0 x9 : Nat} {o0 : Nat} {x1 : Int32} (h_o0 : T0 o0 = some (0, 9, 0)) (I0 : tm_I tm_FT (tm_in w_Reader_isSign) x9 T0 M0 n0 T0 M0 n0) : mj_Met g l kY_Reader_isSign d [.ref o0, .int x1] M0 n0 0 0 (tm_Q tm_FT (tm_in w_Reader_isSign) x9 T0 M0 n0 (fun r _ _ => ∃ v : Int32, r = some (.int v) ∧ 0 ≤ v.toInt ∧ v.toInt ≤ 1)) := by
  refine mj_enter (by decide) (Nat.le_of_ble_eq_true rfl) ?_
  refine mv_aload_n d_Reader_isSign_0 rfl rfl ?_
  obtain ⟨v2, q1⟩ := tm_atI I0 h_o0 (k := 10) rfl
  refine tr_getK q1 d_Reader_isSign_1 f_Reader_41_9 ?_
  refine mv_iconst (v := 3) d_Reader_isSign_4 (by decide) ?_
  have := mz_hi v2
  refine mv_icmp_neZ (tgt := 20) (a := v2.toInt) (b := 3) d_Reader_isSign_5 (by decide) rfl (by decide) (fun b3 => ?_) (fun b3 => ?_)
  · refine mv_iconst (v := 0) d_Reader_isSign_20 (by decide) ?_
    exact mv_iret d_Reader_isSign_21 rfl (by decide) ⟨_, I0, _, rfl, by decide, by decide⟩
  · refine mv_aload_n d_Reader_isSign_8 rfl rfl ?_
    obtain ⟨v5, q4⟩ := tm_atI I0 h_o0 (k := 13) rfl
    refine tr_getK q4 d_Reader_isSign_9 f_Reader_241_9 ?_
    refine mv_iload_n d_Reader_isSign_12 rfl rfl ?_
    have := mz_hi v5
    have := mz_hi x1
    refine mv_icmp_neZ (tgt := 20) (a := v5.toInt) (b := x1.toInt) d_Reader_isSign_13 (by decide) rfl rfl (fun b6 => ?_) (fun b6 => ?_)
    · refine mv_iconst (v := 0) d_Reader_isSign_20 (by decide) ?_
      exact mv_iret d_Reader_isSign_21 rfl (by decide) ⟨_, I0, _, rfl, by decide, by decide⟩
    · refine mv_iconst (v := 1) d_Reader_isSign_16 (by decide) ?_
      refine mv_goto (tgt := 21) d_Reader_isSign_17 (by decide) ?_
      exact mv_iret d_Reader_isSign_21 rfl (by decide) ⟨_, I0, _, rfl, by decide, by decide⟩
theorem lV_Reader_209 : mj_lV "TrustDesk$Reader" 209 kY_Reader_isSign 1 := ⟨⟨(mj_in1 (List.mem_of_getElem? (i := 487) (by decide +kernel)) rfl), (mj_in1 (List.mem_of_getElem? (i := 3) (by decide +kernel)) rfl), (mj_in1 (List.mem_of_getElem? (i := 490) (by decide +kernel)) rfl), by decide, rfl, by decide⟩, (mj_in1 (List.mem_of_getElem? (i := 489) (by decide +kernel)) rfl), (mj_in (List.mem_append_left _ (List.mem_of_getElem? (i := 20) (by decide +kernel))) rfl)⟩
theorem d_Reader_comparisonHere_6 : decode kY_Reader_comparisonHere.2.1 6 = .ok (.ifCond .eq 5, 3) := by decide +kernel
theorem d_Reader_comparisonHere_11 : decode kY_Reader_comparisonHere.2.1 11 = .ok (.aload_n 0, 1) := by decide +kernel
theorem d_Reader_comparisonHere_12 : decode kY_Reader_comparisonHere.2.1 12 = .ok (.bipush 62, 2) := by decide +kernel
theorem d_Reader_comparisonHere_14 : decode kY_Reader_comparisonHere.2.1 14 = .ok (.invokevirtual 209, 3) := by decide +kernel
theorem d_Reader_comparisonHere_17 : decode kY_Reader_comparisonHere.2.1 17 = .ok (.ifCond .eq 6, 3) := by decide +kernel
theorem d_Reader_comparisonHere_23 : decode kY_Reader_comparisonHere.2.1 23 = .ok (.aload_n 0, 1) := by decide +kernel
theorem d_Reader_comparisonHere_24 : decode kY_Reader_comparisonHere.2.1 24 = .ok (.bipush 61, 2) := by decide +kernel
theorem d_Reader_comparisonHere_26 : decode kY_Reader_comparisonHere.2.1 26 = .ok (.invokevirtual 209, 3) := by decide +kernel
theorem d_Reader_comparisonHere_29 : decode kY_Reader_comparisonHere.2.1 29 = .ok (.ifCond .eq 8, 3) := by decide +kernel
theorem d_Reader_comparisonHere_37 : decode kY_Reader_comparisonHere.2.1 37 = .ok (.iconst (-1), 1) := by decide +kernel
theorem d_Reader_comparisonHere_38 : decode kY_Reader_comparisonHere.2.1 38 = .ok (.ireturn, 1) := by decide +kernel
theorem d_Reader_comparisonHere_32 : decode kY_Reader_comparisonHere.2.1 32 = .ok (.bipush 7, 2) := by decide +kernel
theorem d_Reader_comparisonHere_34 : decode kY_Reader_comparisonHere.2.1 34 = .ok (.goto 4, 3) := by decide +kernel
theorem d_Reader_comparisonHere_20 : decode kY_Reader_comparisonHere.2.1 20 = .ok (.bipush 6, 2) := by decide +kernel
theorem d_Reader_comparisonHere_22 : decode kY_Reader_comparisonHere.2.1 22 = .ok (.ireturn, 1) := by decide +kernel
theorem d_Reader_comparisonHere_9 : decode kY_Reader_comparisonHere.2.1 9 = .ok (.iconst 5, 1) := by decide +kernel
theorem d_Reader_comparisonHere_10 : decode kY_Reader_comparisonHere.2.1 10 = .ok (.ireturn, 1) := by decide +kernel
def w_Reader_comparisonHere : List Nat := []
theorem tc_Reader_comparisonHere {g : mj_G} {l : Launch} {d : Nat} {T0 : tm_H} {M0 : mj_M} {n0 x9 : Nat} {o0 : Nat} (h_o0 : T0 o0 = some (0, 9, 0)) (I0 : tm_I tm_FT (tm_in w_Reader_comparisonHere) x9 T0 M0 n0 T0 M0 n0) : mj_Met g l kY_Reader_comparisonHere (d + 1) [.ref o0] M0 n0 0 0 (tm_Q tm_FT (tm_in w_Reader_comparisonHere) x9 T0 M0 n0 (fun r _ _ => ∃ v : Int32, r = some (.int v))) := by
  refine mj_enter (by decide) (Nat.le_of_ble_eq_true rfl) ?_
  refine mv_aload_n d_Reader_comparisonHere_0 rfl rfl ?_
  refine mv_bipush (v := 60) d_Reader_comparisonHere_1 (by decide) ?_
  obtain ⟨_, b7, -⟩ := I0.1 _ _ h_o0
  refine mv_callV (kc' := 0) (ks' := 0) (As := [.int 60]) (st9 := [.int 60, .ref o0]) d_Reader_comparisonHere_3 lV_Reader_209 b7 rfl (tc_Reader_isSign (d := d) (x9 := x9) (o0 := o0) (x1 := 60) h_o0 I0.start) rfl (Nat.le_of_ble_eq_true rfl) (Nat.le_of_ble_eq_true rfl) (Nat.le_of_ble_eq_true rfl) (hst := rfl) (fun b1r M2 n3 b1 => ?_)
  obtain ⟨T4, J5, v8, rfl, b9, b10⟩ := b1
  have I6 := I0.call J5 (tm_sub (by decide)) (Or.inl rfl)
  have t11 := J5.up h_o0
  have := mz_hi v8
  refine mv_if_eqZ (tgt := 11) (a := v8.toInt) d_Reader_comparisonHere_6 (by decide) rfl (fun b12 => ?_) (fun b12 => ?_)
  · refine mv_aload_n d_Reader_comparisonHere_11 rfl rfl ?_
    refine mv_bipush (v := 62) d_Reader_comparisonHere_12 (by decide) ?_
    obtain ⟨_, b19, -⟩ := I6.1 _ _ t11
    refine mv_callV (kc' := 0) (ks' := 0) (As := [.int 62]) (st9 := [.int 62, .ref o0]) d_Reader_comparisonHere_14 lV_Reader_209 b19 rfl (tc_Reader_isSign (d := d) (x9 := x9) (o0 := o0) (x1 := 62) t11 I6.start) rfl (Nat.le_of_ble_eq_true rfl) (Nat.le_of_ble_eq_true rfl) (Nat.le_of_ble_eq_true rfl) (hst := rfl) (fun b13r M14 n15 b13 => ?_)
    obtain ⟨T16, J17, v20, rfl, b21, b22⟩ := b13
    have I18 := I6.call J17 (tm_sub (by decide)) (Or.inl rfl)
    have t23 := J17.up t11
    have := mz_hi v20
    refine mv_if_eqZ (tgt := 23) (a := v20.toInt) d_Reader_comparisonHere_17 (by decide) rfl (fun b24 => ?_) (fun b24 => ?_)
    · refine mv_aload_n d_Reader_comparisonHere_23 rfl rfl ?_
      refine mv_bipush (v := 61) d_Reader_comparisonHere_24 (by decide) ?_
      obtain ⟨_, b31, -⟩ := I18.1 _ _ t23
      refine mv_callV (kc' := 0) (ks' := 0) (As := [.int 61]) (st9 := [.int 61, .ref o0]) d_Reader_comparisonHere_26 lV_Reader_209 b31 rfl (tc_Reader_isSign (d := d) (x9 := x9) (o0 := o0) (x1 := 61) t23 I18.start) rfl (Nat.le_of_ble_eq_true rfl) (Nat.le_of_ble_eq_true rfl) (Nat.le_of_ble_eq_true rfl) (hst := rfl) (fun b25r M26 n27 b25 => ?_)
      obtain ⟨T28, J29, v32, rfl, b33, b34⟩ := b25
      have I30 := I18.call J29 (tm_sub (by decide)) (Or.inl rfl)
      have t35 := J29.up t23
      have := mz_hi v32
      refine mv_if_eqZ (tgt := 37) (a := v32.toInt) d_Reader_comparisonHere_29 (by decide) rfl (fun b36 => ?_) (fun b36 => ?_)
      · refine mv_iconst (v := (-1)) d_Reader_comparisonHere_37 (by decide) ?_
        exact mv_iret d_Reader_comparisonHere_38 rfl (by first | rfl | decide) ⟨_, I30, _, rfl⟩
      · refine mv_bipush (v := 7) d_Reader_comparisonHere_32 (by decide) ?_
        refine mv_goto (tgt := 38) d_Reader_comparisonHere_34 (by decide) ?_
        exact mv_iret d_Reader_comparisonHere_38 rfl (by first | rfl | decide) ⟨_, I30, _, rfl⟩
    · refine mv_bipush (v := 6) d_Reader_comparisonHere_20 (by decide) ?_
      exact mv_iret d_Reader_comparisonHere_22 rfl (by first | rfl | decide) ⟨_, I18, _, rfl⟩
  · refine mv_iconst (v := 5) d_Reader_comparisonHere_9 (by decide) ?_
    exact mv_iret d_Reader_comparisonHere_10 rfl (by first | rfl | decide) ⟨_, I6, _, rfl⟩
abbrev kY_Reader_emit : mj_Y := (⟨"TrustDesk$Reader", "emit", "(II)V"⟩, prog_10_method_23_code, 3, (Option.none : Option Jvm.ClassFile.FieldType))
theorem d_Reader_emit_0 : decode kY_Reader_emit.2.1 0 = .ok (.aload_n 0, 1) := by decide +kernel
theorem d_Reader_emit_1 : decode kY_Reader_emit.2.1 1 = .ok (.getfield 118, 3) := by decide +kernel
theorem f_Reader_118_9 : mj_fl "TrustDesk$Reader" 118 9 18 := ⟨kR_Reader, kF_Reader, 19, "TrustDesk$Reader", rfl, kg_9, by decide, (mj_in1 (List.mem_of_getElem? (i := 90) (by decide +kernel)) rfl), Or.inl rfl⟩
theorem d_Reader_emit_4 : decode kY_Reader_emit.2.1 4 = .ok (.ifCond .lt 38, 3) := by decide +kernel
theorem d_Reader_emit_42 : decode kY_Reader_emit.2.1 42 = .ok (.return_, 1) := by decide +kernel
theorem d_Reader_emit_7 : decode kY_Reader_emit.2.1 7 = .ok (.aload_n 0, 1) := by decide +kernel
theorem d_Reader_emit_8 : decode kY_Reader_emit.2.1 8 = .ok (.getfield 118, 3) := by decide +kernel
theorem d_Reader_emit_11 : decode kY_Reader_emit.2.1 11 = .ok (.sipush 400, 3) := by decide +kernel
theorem d_Reader_emit_14 : decode kY_Reader_emit.2.1 14 = .ok (.if_icmp .ge 28, 3) := by decide +kernel
theorem d_Reader_emit_17 : decode kY_Reader_emit.2.1 17 = .ok (.aload_n 0, 1) := by decide +kernel
theorem d_Reader_emit_18 : decode kY_Reader_emit.2.1 18 = .ok (.getfield 31, 3) := by decide +kernel
theorem f_Reader_31_9 : mj_fl "TrustDesk$Reader" 31 9 17 := ⟨kR_Reader, kF_Reader, 19, "TrustDesk$Reader", rfl, kg_9, by decide, (mj_in1 (List.mem_of_getElem? (i := 89) (by decide +kernel)) rfl), Or.inl rfl⟩
theorem d_Reader_emit_21 : decode kY_Reader_emit.2.1 21 = .ok (.aload_n 0, 1) := by decide +kernel
theorem d_Reader_emit_22 : decode kY_Reader_emit.2.1 22 = .ok (.getfield 118, 3) := by decide +kernel
theorem d_Reader_emit_25 : decode kY_Reader_emit.2.1 25 = .ok (.iload_n 2, 1) := by decide +kernel
theorem d_Reader_emit_26 : decode kY_Reader_emit.2.1 26 = .ok (.bipush 16, 2) := by decide +kernel
theorem d_Reader_emit_28 : decode kY_Reader_emit.2.1 28 = .ok (.imul, 1) := by decide +kernel
theorem d_Reader_emit_29 : decode kY_Reader_emit.2.1 29 = .ok (.iload_n 1, 1) := by decide +kernel
theorem d_Reader_emit_30 : decode kY_Reader_emit.2.1 30 = .ok (.iadd, 1) := by decide +kernel
theorem d_Reader_emit_31 : decode kY_Reader_emit.2.1 31 = .ok (.iastore, 1) := by decide +kernel
theorem d_Reader_emit_32 : decode kY_Reader_emit.2.1 32 = .ok (.aload_n 0, 1) := by decide +kernel
theorem d_Reader_emit_33 : decode kY_Reader_emit.2.1 33 = .ok (.dup, 1) := by decide +kernel
theorem d_Reader_emit_34 : decode kY_Reader_emit.2.1 34 = .ok (.getfield 118, 3) := by decide +kernel
theorem d_Reader_emit_37 : decode kY_Reader_emit.2.1 37 = .ok (.iconst 1, 1) := by decide +kernel
theorem d_Reader_emit_38 : decode kY_Reader_emit.2.1 38 = .ok (.iadd, 1) := by decide +kernel
theorem d_Reader_emit_39 : decode kY_Reader_emit.2.1 39 = .ok (.putfield 118, 3) := by decide +kernel
theorem p_Reader_118_9 : mj_fp "TrustDesk$Reader" 118 9 18 (kt_Reader 18) false := ⟨kR_Reader, kF_Reader, 19, "TrustDesk$Reader", kt_Reader, rfl, kg_9, by decide, (mj_in1 (List.mem_of_getElem? (i := 90) (by decide +kernel)) rfl), Or.inl rfl, kto_Reader, kn_Reader, rfl, rfl, fun h => by cases h⟩
def w_Reader_emit : List Nat := [918, 967]
theorem tc_Reader_emit {g : mj_G} {l : Launch} {d : Nat} {T0 : tm_H} {M0 : mj_M} {n0 x9 : Nat} {o0 : Nat} {x1 : Int32} {x2 : Int32} (h_o0 : T0 o0 = some (0, 9, 0)) (I0 : tm_I tm_FT (tm_in w_Reader_emit) x9 T0 M0 n0 T0 M0 n0) : mj_Met g l kY_Reader_emit d [.ref o0, .int x1, .int x2] M0 n0 0 0 (tm_Q tm_FT (tm_in w_Reader_emit) x9 T0 M0 n0 (fun r _ _ => r = none)) := by
  refine mj_enter (by decide) (Nat.le_of_ble_eq_true rfl) ?_
  refine mv_aload_n d_Reader_emit_0 rfl rfl ?_
  obtain ⟨v2, q1⟩ := tm_atI I0 h_o0 (k := 18) rfl
  refine tr_getK q1 d_Reader_emit_1 f_Reader_118_9 ?_
  have := mz_hi v2
  refine mv_if_ltZ (tgt := 42) (a := v2.toInt) d_Reader_emit_4 (by decide) rfl (fun b3 => ?_) (fun b3 => ?_)
  · exact mv_vret d_Reader_emit_42 rfl ⟨_, I0, rfl⟩
  · refine mv_aload_n d_Reader_emit_7 rfl rfl ?_
    refine tr_getK (k := 18) q1 d_Reader_emit_8 f_Reader_118_9 ?_
    refine mv_sipush (v := 400) d_Reader_emit_11 (by decide) ?_
    have := mz_hi v2
    refine mv_icmp_geZ (tgt := 42) (a := v2.toInt) (b := 400) d_Reader_emit_14 (by decide) rfl (by decide) (fun b4 => ?_) (fun b4 => ?_)
    · exact mv_vret d_Reader_emit_42 rfl ⟨_, I0, rfl⟩
    · refine mv_aload_n d_Reader_emit_17 rfl rfl ?_
      obtain ⟨a6, q5, t_a6⟩ := tm_atR I0 h_o0 (k := 17) rfl
      refine tr_getK q5 d_Reader_emit_18 f_Reader_31_9 ?_
      refine mv_aload_n d_Reader_emit_21 rfl rfl ?_
      refine tr_getK (k := 18) q1 d_Reader_emit_22 f_Reader_118_9 ?_
      refine mv_iload_n d_Reader_emit_25 rfl rfl ?_
      refine mv_bipush (v := 16) d_Reader_emit_26 (by decide) ?_
      refine mv_imul d_Reader_emit_28 ?_
      refine mv_iload_n d_Reader_emit_29 rfl rfl ?_
      refine mv_iadd d_Reader_emit_30 ?_
      refine tr_iastK tm_okF I0 t_a6 (by decide) (Or.inl (by decide)) d_Reader_emit_31 (vp_in_iff.mpr (by omega)) (fun M7 I8 K9 => ?_)
      refine mv_aload_n d_Reader_emit_32 rfl rfl ?_
      refine mv_dup d_Reader_emit_33 rfl ?_
      refine tr_getK (k := 18) (K9 _ 9 18 _ q1) d_Reader_emit_34 f_Reader_118_9 ?_
      refine mv_iconst (v := 1) d_Reader_emit_37 (by decide) ?_
      refine mv_iadd d_Reader_emit_38 ?_
      refine tr_putK tm_okF I8 h_o0 (k := 18) rfl ⟨_, rfl⟩ (Or.inl (by decide)) d_Reader_emit_39 p_Reader_118_9 rfl rfl (fun M10 I11 q12 K13 => ?_)
      exact mv_vret d_Reader_emit_42 rfl ⟨_, I11, rfl⟩
abbrev kY_Reader_isWord : mj_Y := (⟨"TrustDesk$Reader", "isWord", "(I)Z"⟩, prog_10_method_29_code, 2, (Option.some Jvm.ClassFile.FieldType.boolean))
theorem d_Reader_isWord_0 : decode kY_Reader_isWord.2.1 0 = .ok (.aload_n 0, 1) := by decide +kernel
theorem d_Reader_isWord_1 : decode kY_Reader_isWord.2.1 1 = .ok (.getfield 41, 3) := by decide +kernel
theorem d_Reader_isWord_4 : decode kY_Reader_isWord.2.1 4 = .ok (.iconst 1, 1) := by decide +kernel
theorem d_Reader_isWord_5 : decode kY_Reader_isWord.2.1 5 = .ok (.if_icmp .ne 15, 3) := by decide +kernel
theorem d_Reader_isWord_20 : decode kY_Reader_isWord.2.1 20 = .ok (.iconst 0, 1) := by decide +kernel
theorem d_Reader_isWord_21 : decode kY_Reader_isWord.2.1 21 = .ok (.ireturn, 1) := by decide +kernel
theorem d_Reader_isWord_8 : decode kY_Reader_isWord.2.1 8 = .ok (.aload_n 0, 1) := by decide +kernel
theorem d_Reader_isWord_9 : decode kY_Reader_isWord.2.1 9 = .ok (.getfield 241, 3) := by decide +kernel
theorem d_Reader_isWord_12 : decode kY_Reader_isWord.2.1 12 = .ok (.iload_n 1, 1) := by decide +kernel
theorem d_Reader_isWord_13 : decode kY_Reader_isWord.2.1 13 = .ok (.if_icmp .ne 7, 3) := by decide +kernel
theorem d_Reader_isWord_16 : decode kY_Reader_isWord.2.1 16 = .ok (.iconst 1, 1) := by decide +kernel
theorem d_Reader_isWord_17 : decode kY_Reader_isWord.2.1 17 = .ok (.goto 4, 3) := by decide +kernel
def w_Reader_isWord : List Nat := []
theorem tc_Reader_isWord {g : mj_G} {l : Launch} {d : Nat} {T0 : tm_H} {M0 : mj_M} {n0 x9 : Nat} {o0 : Nat} {x1 : Int32} (h_o0 : T0 o0 = some (0, 9, 0)) (I0 : tm_I tm_FT (tm_in w_Reader_isWord) x9 T0 M0 n0 T0 M0 n0) : mj_Met g l kY_Reader_isWord d [.ref o0, .int x1] M0 n0 0 0 (tm_Q tm_FT (tm_in w_Reader_isWord) x9 T0 M0 n0 (fun r _ _ => ∃ v : Int32, r = some (.int v) ∧ 0 ≤ v.toInt ∧ v.toInt ≤ 1)) := by
  refine mj_enter (by decide) (Nat.le_of_ble_eq_true rfl) ?_
  refine mv_aload_n d_Reader_isWord_0 rfl rfl ?_
  obtain ⟨v2, q1⟩ := tm_atI I0 h_o0 (k := 10) rfl
  refine tr_getK q1 d_Reader_isWord_1 f_Reader_41_9 ?_
  refine mv_iconst (v := 1) d_Reader_isWord_4 (by decide) ?_
  have := mz_hi v2
  refine mv_icmp_neZ (tgt := 20) (a := v2.toInt) (b := 1) d_Reader_isWord_5 (by decide) rfl (by decide) (fun b3 => ?_) (fun b3 => ?_)
  · refine mv_iconst (v := 0) d_Reader_isWord_20 (by decide) ?_
    exact mv_iret d_Reader_isWord_21 rfl (by decide) ⟨_, I0, _, rfl, by decide, by decide⟩
  · refine mv_aload_n d_Reader_isWord_8 rfl rfl ?_
    obtain ⟨v5, q4⟩ := tm_atI I0 h_o0 (k := 13) rfl
    refine tr_getK q4 d_Reader_isWord_9 f_Reader_241_9 ?_
    refine mv_iload_n d_Reader_isWord_12 rfl rfl ?_
    have := mz_hi v5
    have := mz_hi x1
    refine mv_icmp_neZ (tgt := 20) (a := v5.toInt) (b := x1.toInt) d_Reader_isWord_13 (by decide) rfl rfl (fun b6 => ?_) (fun b6 => ?_)
    · refine mv_iconst (v := 0) d_Reader_isWord_20 (by decide) ?_
      exact mv_iret d_Reader_isWord_21 rfl (by decide) ⟨_, I0, _, rfl, by decide, by decide⟩
    · refine mv_iconst (v := 1) d_Reader_isWord_16 (by decide) ?_
      refine mv_goto (tgt := 21) d_Reader_isWord_17 (by decide) ?_
      exact mv_iret d_Reader_isWord_21 rfl (by decide) ⟨_, I0, _, rfl, by decide, by decide⟩
abbrev kY_Reader_markClause : mj_Y := (⟨"TrustDesk$Reader", "markClause", "(LTrustDesk$Fund;)Z"⟩, prog_10_method_11_code, 3, (Option.some Jvm.ClassFile.FieldType.boolean))
theorem d_Reader_markClause_0 : decode kY_Reader_markClause.2.1 0 = .ok (.aload_n 0, 1) := by decide +kernel
theorem d_Reader_markClause_1 : decode kY_Reader_markClause.2.1 1 = .ok (.invokevirtual 82, 3) := by decide +kernel
theorem lV_Reader_82 : mj_lV "TrustDesk$Reader" 82 kY_Reader_advance 0 := ⟨⟨(mj_in1 (List.mem_of_getElem? (i := 447) (by decide +kernel)) rfl), (mj_in1 (List.mem_of_getElem? (i := 3) (by decide +kernel)) rfl), (mj_in1 (List.mem_of_getElem? (i := 450) (by decide +kernel)) rfl), by decide, rfl, by decide⟩, (mj_in1 (List.mem_of_getElem? (i := 449) (by decide +kernel)) rfl), (mj_in (List.mem_append_left _ (List.mem_of_getElem? (i := 10) (by decide +kernel))) rfl)⟩
theorem d_Reader_markClause_4 : decode kY_Reader_markClause.2.1 4 = .ok (.aload_n 0, 1) := by decide +kernel
theorem d_Reader_markClause_5 : decode kY_Reader_markClause.2.1 5 = .ok (.iconst 0, 1) := by decide +kernel
theorem d_Reader_markClause_6 : decode kY_Reader_markClause.2.1 6 = .ok (.bipush 7, 2) := by decide +kernel
theorem d_Reader_markClause_8 : decode kY_Reader_markClause.2.1 8 = .ok (.invokevirtual 107, 3) := by decide +kernel
abbrev kY_Reader_numeral : mj_Y := (⟨"TrustDesk$Reader", "numeral", "(II)Z"⟩, prog_10_method_26_code, 3, (Option.some Jvm.ClassFile.FieldType.boolean))
theorem d_Reader_numeral_0 : decode kY_Reader_numeral.2.1 0 = .ok (.aload_n 0, 1) := by decide +kernel
theorem d_Reader_numeral_1 : decode kY_Reader_numeral.2.1 1 = .ok (.getfield 41, 3) := by decide +kernel
theorem d_Reader_numeral_4 : decode kY_Reader_numeral.2.1 4 = .ok (.iconst 2, 1) := by decide +kernel
theorem d_Reader_numeral_5 : decode kY_Reader_numeral.2.1 5 = .ok (.if_icmp .ne 11, 3) := by decide +kernel
theorem d_Reader_numeral_16 : decode kY_Reader_numeral.2.1 16 = .ok (.aload_n 0, 1) := by decide +kernel
theorem d_Reader_numeral_17 : decode kY_Reader_numeral.2.1 17 = .ok (.iconst 1, 1) := by decide +kernel
theorem d_Reader_numeral_18 : decode kY_Reader_numeral.2.1 18 = .ok (.invokevirtual 56, 3) := by decide +kernel
abbrev kY_Reader_refuse : mj_Y := (⟨"TrustDesk$Reader", "refuse", "(I)Z"⟩, prog_10_method_25_code, 2, (Option.some Jvm.ClassFile.FieldType.boolean))
theorem d_Reader_refuse_0 : decode kY_Reader_refuse.2.1 0 = .ok (.aload_n 0, 1) := by decide +kernel
theorem d_Reader_refuse_1 : decode kY_Reader_refuse.2.1 1 = .ok (.iload_n 1, 1) := by decide +kernel
theorem d_Reader_refuse_2 : decode kY_Reader_refuse.2.1 2 = .ok (.putfield 70, 3) := by decide +kernel
theorem p_Reader_70_9 : mj_fp "TrustDesk$Reader" 70 9 1 (kt_Reader 1) false := ⟨kR_Reader, kF_Reader, 19, "TrustDesk$Reader", kt_Reader, rfl, kg_9, by decide, (mj_in1 (List.mem_of_getElem? (i := 71) (by decide +kernel)) rfl), Or.inl rfl, kto_Reader, kn_Reader, rfl, rfl, fun h => by cases h⟩
theorem d_Reader_refuse_5 : decode kY_Reader_refuse.2.1 5 = .ok (.aload_n 0, 1) := by decide +kernel
theorem d_Reader_refuse_6 : decode kY_Reader_refuse.2.1 6 = .ok (.aload_n 0, 1) := by decide +kernel
theorem d_Reader_refuse_7 : decode kY_Reader_refuse.2.1 7 = .ok (.getfield 175, 3) := by decide +kernel
theorem f_Reader_175_9 : mj_fl "TrustDesk$Reader" 175 9 11 := ⟨kR_Reader, kF_Reader, 19, "TrustDesk$Reader", rfl, kg_9, by decide, (mj_in1 (List.mem_of_getElem? (i := 83) (by decide +kernel)) rfl), Or.inl rfl⟩
theorem d_Reader_refuse_10 : decode kY_Reader_refuse.2.1 10 = .ok (.putfield 11, 3) := by decide +kernel
theorem d_Reader_refuse_13 : decode kY_Reader_refuse.2.1 13 = .ok (.iconst 0, 1) := by decide +kernel
theorem d_Reader_refuse_14 : decode kY_Reader_refuse.2.1 14 = .ok (.ireturn, 1) := by decide +kernel
def w_Reader_refuse : List Nat := [901, 902]
theorem tc_Reader_refuse {g : mj_G} {l : Launch} {d : Nat} {T0 : tm_H} {M0 : mj_M} {n0 x9 : Nat} {o0 : Nat} {x1 : Int32} (h_o0 : T0 o0 = some (0, 9, 0)) (I0 : tm_I tm_FT (tm_in w_Reader_refuse) x9 T0 M0 n0 T0 M0 n0) : mj_Met g l kY_Reader_refuse d [.ref o0, .int x1] M0 n0 0 0 (tm_Q tm_FT (tm_in w_Reader_refuse) x9 T0 M0 n0 (fun r _ _ => ∃ v : Int32, r = some (.int v) ∧ 0 ≤ v.toInt ∧ v.toInt ≤ 1)) := by
  refine mj_enter (by decide) (Nat.le_of_ble_eq_true rfl) ?_
  refine mv_aload_n d_Reader_refuse_0 rfl rfl ?_
  refine mv_iload_n d_Reader_refuse_1 rfl rfl ?_
  refine tr_putK tm_okF I0 h_o0 (k := 1) rfl ⟨_, rfl⟩ (Or.inl (by decide)) d_Reader_refuse_2 p_Reader_70_9 rfl rfl (fun M1 I2 q3 K4 => ?_)
  refine mv_aload_n d_Reader_refuse_5 rfl rfl ?_
  refine mv_aload_n d_Reader_refuse_6 rfl rfl ?_
  obtain ⟨v6, q5⟩ := tm_atI I2 h_o0 (k := 11) rfl
  refine tr_getK q5 d_Reader_refuse_7 f_Reader_175_9 ?_
  refine tr_putK tm_okF I2 h_o0 (k := 2) rfl ⟨_, rfl⟩ (Or.inl (by decide)) d_Reader_refuse_10 p_Reader_11_9 rfl rfl (fun M7 I8 q9 K10 => ?_)
  refine mv_iconst (v := 0) d_Reader_refuse_13 (by decide) ?_
  exact mv_iret d_Reader_refuse_14 rfl (by decide) ⟨_, I8, _, rfl, by decide, by decide⟩
theorem lV_Reader_56 : mj_lV "TrustDesk$Reader" 56 kY_Reader_refuse 1 := ⟨⟨(mj_in1 (List.mem_of_getElem? (i := 463) (by decide +kernel)) rfl), (mj_in1 (List.mem_of_getElem? (i := 3) (by decide +kernel)) rfl), (mj_in1 (List.mem_of_getElem? (i := 466) (by decide +kernel)) rfl), by decide, rfl, by decide⟩, (mj_in1 (List.mem_of_getElem? (i := 465) (by decide +kernel)) rfl), (mj_in (List.mem_append_left _ (List.mem_of_getElem? (i := 14) (by decide +kernel))) rfl)⟩
theorem d_Reader_numeral_21 : decode kY_Reader_numeral.2.1 21 = .ok (.ireturn, 1) := by decide +kernel
theorem d_Reader_numeral_8 : decode kY_Reader_numeral.2.1 8 = .ok (.aload_n 0, 1) := by decide +kernel
theorem d_Reader_numeral_9 : decode kY_Reader_numeral.2.1 9 = .ok (.getfield 241, 3) := by decide +kernel
theorem d_Reader_numeral_12 : decode kY_Reader_numeral.2.1 12 = .ok (.iconst (-1), 1) := by decide +kernel
theorem d_Reader_numeral_13 : decode kY_Reader_numeral.2.1 13 = .ok (.if_icmp .ne 9, 3) := by decide +kernel
theorem d_Reader_numeral_22 : decode kY_Reader_numeral.2.1 22 = .ok (.aload_n 0, 1) := by decide +kernel
theorem d_Reader_numeral_23 : decode kY_Reader_numeral.2.1 23 = .ok (.getfield 241, 3) := by decide +kernel
theorem d_Reader_numeral_26 : decode kY_Reader_numeral.2.1 26 = .ok (.iload_n 1, 1) := by decide +kernel
theorem d_Reader_numeral_27 : decode kY_Reader_numeral.2.1 27 = .ok (.if_icmp .lt 11, 3) := by decide +kernel
theorem d_Reader_numeral_38 : decode kY_Reader_numeral.2.1 38 = .ok (.aload_n 0, 1) := by decide +kernel
theorem d_Reader_numeral_39 : decode kY_Reader_numeral.2.1 39 = .ok (.iconst 2, 1) := by decide +kernel
theorem d_Reader_numeral_40 : decode kY_Reader_numeral.2.1 40 = .ok (.invokevirtual 56, 3) := by decide +kernel
theorem d_Reader_numeral_43 : decode kY_Reader_numeral.2.1 43 = .ok (.ireturn, 1) := by decide +kernel
theorem d_Reader_numeral_30 : decode kY_Reader_numeral.2.1 30 = .ok (.aload_n 0, 1) := by decide +kernel
theorem d_Reader_numeral_31 : decode kY_Reader_numeral.2.1 31 = .ok (.getfield 241, 3) := by decide +kernel
theorem d_Reader_numeral_34 : decode kY_Reader_numeral.2.1 34 = .ok (.iload_n 2, 1) := by decide +kernel
theorem d_Reader_numeral_35 : decode kY_Reader_numeral.2.1 35 = .ok (.if_icmp .le 9, 3) := by decide +kernel
theorem d_Reader_numeral_44 : decode kY_Reader_numeral.2.1 44 = .ok (.aload_n 0, 1) := by decide +kernel
theorem d_Reader_numeral_45 : decode kY_Reader_numeral.2.1 45 = .ok (.aload_n 0, 1) := by decide +kernel
theorem d_Reader_numeral_46 : decode kY_Reader_numeral.2.1 46 = .ok (.getfield 241, 3) := by decide +kernel
theorem d_Reader_numeral_49 : decode kY_Reader_numeral.2.1 49 = .ok (.putfield 111, 3) := by decide +kernel
theorem p_Reader_111_9 : mj_fp "TrustDesk$Reader" 111 9 14 (kt_Reader 14) false := ⟨kR_Reader, kF_Reader, 19, "TrustDesk$Reader", kt_Reader, rfl, kg_9, by decide, (mj_in1 (List.mem_of_getElem? (i := 86) (by decide +kernel)) rfl), Or.inl rfl, kto_Reader, kn_Reader, rfl, rfl, fun h => by cases h⟩
theorem d_Reader_numeral_52 : decode kY_Reader_numeral.2.1 52 = .ok (.aload_n 0, 1) := by decide +kernel
theorem d_Reader_numeral_53 : decode kY_Reader_numeral.2.1 53 = .ok (.invokevirtual 82, 3) := by decide +kernel
theorem d_Reader_numeral_56 : decode kY_Reader_numeral.2.1 56 = .ok (.iconst 1, 1) := by decide +kernel
theorem d_Reader_numeral_57 : decode kY_Reader_numeral.2.1 57 = .ok (.ireturn, 1) := by decide +kernel
def w_Reader_numeral : List Nat := [901, 902, 909, 910, 911, 912, 913, 914]
theorem tc_Reader_numeral {g : mj_G} {l : Launch} {d : Nat} {T0 : tm_H} {M0 : mj_M} {n0 x9 : Nat} {o0 : Nat} {x1 : Int32} {x2 : Int32} (h_o0 : T0 o0 = some (0, 9, 0)) (I0 : tm_I tm_FT (tm_in w_Reader_numeral) x9 T0 M0 n0 T0 M0 n0) : mj_Met g l kY_Reader_numeral (d + 1) [.ref o0, .int x1, .int x2] M0 n0 0 0 (tm_Q tm_FT (tm_in w_Reader_numeral) x9 T0 M0 n0 (fun r _ _ => ∃ v : Int32, r = some (.int v) ∧ 0 ≤ v.toInt ∧ v.toInt ≤ 1)) := by
  refine mj_enter (by decide) (Nat.le_of_ble_eq_true rfl) ?_
  refine mv_aload_n d_Reader_numeral_0 rfl rfl ?_
  obtain ⟨v2, q1⟩ := tm_atI I0 h_o0 (k := 10) rfl
  refine tr_getK q1 d_Reader_numeral_1 f_Reader_41_9 ?_
  refine mv_iconst (v := 2) d_Reader_numeral_4 (by decide) ?_
  have := mz_hi v2
  refine mv_icmp_neZ (tgt := 16) (a := v2.toInt) (b := 2) d_Reader_numeral_5 (by decide) rfl (by decide) (fun b3 => ?_) (fun b3 => ?_)
  · refine mv_aload_n d_Reader_numeral_16 rfl rfl ?_
    refine mv_iconst (v := 1) d_Reader_numeral_17 (by decide) ?_
    obtain ⟨_, b10, -⟩ := I0.1 _ _ h_o0
    refine mv_callV (kc' := 0) (ks' := 0) (As := [.int 1]) (st9 := [.int 1, .ref o0]) d_Reader_numeral_18 lV_Reader_56 b10 rfl (tc_Reader_refuse (d := d) (x9 := x9) (o0 := o0) (x1 := 1) h_o0 I0.start) rfl (Nat.le_of_ble_eq_true rfl) (Nat.le_of_ble_eq_true rfl) (Nat.le_of_ble_eq_true rfl) (hst := rfl) (fun b4r M5 n6 b4 => ?_)
    obtain ⟨T7, J8, v11, rfl, b12, b13⟩ := b4
    have I9 := I0.call J8 (tm_sub (by decide)) (Or.inl rfl)
    have t14 := J8.up h_o0
    have q15 := J8.keep h_o0 (by decide) q1
    exact mv_iret d_Reader_numeral_21 rfl (mz_nb (by omega) (by omega)) ⟨_, I9, _, rfl, by omega, by omega⟩
  · refine mv_aload_n d_Reader_numeral_8 rfl rfl ?_
    obtain ⟨v17, q16⟩ := tm_atI I0 h_o0 (k := 13) rfl
    refine tr_getK q16 d_Reader_numeral_9 f_Reader_241_9 ?_
    refine mv_iconst (v := (-1)) d_Reader_numeral_12 (by decide) ?_
    have := mz_hi v17
    refine mv_icmp_neZ (tgt := 22) (a := v17.toInt) (b := (-1)) d_Reader_numeral_13 (by decide) rfl (by decide) (fun b18 => ?_) (fun b18 => ?_)
    · refine mv_aload_n d_Reader_numeral_22 rfl rfl ?_
      refine tr_getK (k := 13) q16 d_Reader_numeral_23 f_Reader_241_9 ?_
      refine mv_iload_n d_Reader_numeral_26 rfl rfl ?_
      have := mz_hi v17
      have := mz_hi x1
      refine mv_icmp_ltZ (tgt := 38) (a := v17.toInt) (b := x1.toInt) d_Reader_numeral_27 (by decide) rfl rfl (fun b19 => ?_) (fun b19 => ?_)
      · refine mv_aload_n d_Reader_numeral_38 rfl rfl ?_
        refine mv_iconst (v := 2) d_Reader_numeral_39 (by decide) ?_
        obtain ⟨_, b26, -⟩ := I0.1 _ _ h_o0
        refine mv_callV (kc' := 0) (ks' := 0) (As := [.int 2]) (st9 := [.int 2, .ref o0]) d_Reader_numeral_40 lV_Reader_56 b26 rfl (tc_Reader_refuse (d := d) (x9 := x9) (o0 := o0) (x1 := 2) h_o0 I0.start) rfl (Nat.le_of_ble_eq_true rfl) (Nat.le_of_ble_eq_true rfl) (Nat.le_of_ble_eq_true rfl) (hst := rfl) (fun b20r M21 n22 b20 => ?_)
        obtain ⟨T23, J24, v27, rfl, b28, b29⟩ := b20
        have I25 := I0.call J24 (tm_sub (by decide)) (Or.inl rfl)
        have t30 := J24.up h_o0
        have q31 := J24.keep h_o0 (by decide) q1
        have q32 := J24.keep h_o0 (by decide) q16
        exact mv_iret d_Reader_numeral_43 rfl (mz_nb (by omega) (by omega)) ⟨_, I25, _, rfl, by omega, by omega⟩
      · refine mv_aload_n d_Reader_numeral_30 rfl rfl ?_
        refine tr_getK (k := 13) q16 d_Reader_numeral_31 f_Reader_241_9 ?_
        refine mv_iload_n d_Reader_numeral_34 rfl rfl ?_
        have := mz_hi v17
        have := mz_hi x2
        refine mv_icmp_leZ (tgt := 44) (a := v17.toInt) (b := x2.toInt) d_Reader_numeral_35 (by decide) rfl rfl (fun b33 => ?_) (fun b33 => ?_)
        · refine mv_aload_n d_Reader_numeral_44 rfl rfl ?_
          refine mv_aload_n d_Reader_numeral_45 rfl rfl ?_
          refine tr_getK (k := 13) q16 d_Reader_numeral_46 f_Reader_241_9 ?_
          refine tr_putK tm_okF I0 h_o0 (k := 14) rfl ⟨_, rfl⟩ (Or.inl (by decide)) d_Reader_numeral_49 p_Reader_111_9 rfl rfl (fun M34 I35 q36 K37 => ?_)
          refine mv_aload_n d_Reader_numeral_52 rfl rfl ?_
          obtain ⟨_, b44, -⟩ := I35.1 _ _ h_o0
          refine mv_callV (kc' := 0) (ks' := 0) (As := []) (st9 := [.ref o0]) d_Reader_numeral_53 lV_Reader_82 b44 rfl (tc_Reader_advance (d := d) (x9 := x9) (o0 := o0) h_o0 I35.start) rfl (Nat.le_of_ble_eq_true rfl) (Nat.le_of_ble_eq_true rfl) (Nat.le_of_ble_eq_true rfl) (hst := rfl) (fun b38r M39 n40 b38 => ?_)
          obtain ⟨T41, J42, rfl⟩ := b38
          have I43 := I35.call J42 (tm_sub (by decide)) (Or.inl rfl)
          have t45 := J42.up h_o0
          have q46 := J42.keep h_o0 (by decide) q36
          refine mv_iconst (v := 1) d_Reader_numeral_56 (by decide) ?_
          exact mv_iret d_Reader_numeral_57 rfl (by decide) ⟨_, I43, _, rfl, by decide, by decide⟩
        · refine mv_aload_n d_Reader_numeral_38 rfl rfl ?_
          refine mv_iconst (v := 2) d_Reader_numeral_39 (by decide) ?_
          obtain ⟨_, b53, -⟩ := I0.1 _ _ h_o0
          refine mv_callV (kc' := 0) (ks' := 0) (As := [.int 2]) (st9 := [.int 2, .ref o0]) d_Reader_numeral_40 lV_Reader_56 b53 rfl (tc_Reader_refuse (d := d) (x9 := x9) (o0 := o0) (x1 := 2) h_o0 I0.start) rfl (Nat.le_of_ble_eq_true rfl) (Nat.le_of_ble_eq_true rfl) (Nat.le_of_ble_eq_true rfl) (hst := rfl) (fun b47r M48 n49 b47 => ?_)
          obtain ⟨T50, J51, v54, rfl, b55, b56⟩ := b47
          have I52 := I0.call J51 (tm_sub (by decide)) (Or.inl rfl)
          have t57 := J51.up h_o0
          have q58 := J51.keep h_o0 (by decide) q1
          have q59 := J51.keep h_o0 (by decide) q16
          exact mv_iret d_Reader_numeral_43 rfl (mz_nb (by omega) (by omega)) ⟨_, I52, _, rfl, by omega, by omega⟩
    · refine mv_aload_n d_Reader_numeral_16 rfl rfl ?_
      refine mv_iconst (v := 1) d_Reader_numeral_17 (by decide) ?_
      obtain ⟨_, b66, -⟩ := I0.1 _ _ h_o0
      refine mv_callV (kc' := 0) (ks' := 0) (As := [.int 1]) (st9 := [.int 1, .ref o0]) d_Reader_numeral_18 lV_Reader_56 b66 rfl (tc_Reader_refuse (d := d) (x9 := x9) (o0 := o0) (x1 := 1) h_o0 I0.start) rfl (Nat.le_of_ble_eq_true rfl) (Nat.le_of_ble_eq_true rfl) (Nat.le_of_ble_eq_true rfl) (hst := rfl) (fun b60r M61 n62 b60 => ?_)
      obtain ⟨T63, J64, v67, rfl, b68, b69⟩ := b60
      have I65 := I0.call J64 (tm_sub (by decide)) (Or.inl rfl)
      have t70 := J64.up h_o0
      have q71 := J64.keep h_o0 (by decide) q1
      have q72 := J64.keep h_o0 (by decide) q16
      exact mv_iret d_Reader_numeral_21 rfl (mz_nb (by omega) (by omega)) ⟨_, I65, _, rfl, by omega, by omega⟩
theorem lV_Reader_107 : mj_lV "TrustDesk$Reader" 107 kY_Reader_numeral 2 := ⟨⟨(mj_in1 (List.mem_of_getElem? (i := 511) (by decide +kernel)) rfl), (mj_in1 (List.mem_of_getElem? (i := 3) (by decide +kernel)) rfl), (mj_in1 (List.mem_of_getElem? (i := 514) (by decide +kernel)) rfl), by decide, rfl, by decide⟩, (mj_in1 (List.mem_of_getElem? (i := 513) (by decide +kernel)) rfl), (mj_in (List.mem_append_left _ (List.mem_of_getElem? (i := 26) (by decide +kernel))) rfl)⟩
theorem d_Reader_markClause_11 : decode kY_Reader_markClause.2.1 11 = .ok (.ifCond .ne 5, 3) := by decide +kernel
theorem d_Reader_markClause_16 : decode kY_Reader_markClause.2.1 16 = .ok (.aload_n 1, 1) := by decide +kernel
theorem d_Reader_markClause_17 : decode kY_Reader_markClause.2.1 17 = .ok (.dup, 1) := by decide +kernel
theorem d_Reader_markClause_18 : decode kY_Reader_markClause.2.1 18 = .ok (.getfield 163, 3) := by decide +kernel
theorem f_Reader_163_6 : mj_fl "TrustDesk$Reader" 163 6 4 := ⟨kR_Fund, kF_Fund, 15, "TrustDesk$Fund", rfl, kg_6, by decide, (mj_in1 (List.mem_of_getElem? (i := 673) (by decide +kernel)) rfl), Or.inl rfl⟩
theorem d_Reader_markClause_21 : decode kY_Reader_markClause.2.1 21 = .ok (.iconst 1, 1) := by decide +kernel
theorem d_Reader_markClause_22 : decode kY_Reader_markClause.2.1 22 = .ok (.aload_n 0, 1) := by decide +kernel
theorem d_Reader_markClause_23 : decode kY_Reader_markClause.2.1 23 = .ok (.getfield 111, 3) := by decide +kernel
theorem f_Reader_111_9 : mj_fl "TrustDesk$Reader" 111 9 14 := ⟨kR_Reader, kF_Reader, 19, "TrustDesk$Reader", rfl, kg_9, by decide, (mj_in1 (List.mem_of_getElem? (i := 86) (by decide +kernel)) rfl), Or.inl rfl⟩
theorem d_Reader_markClause_26 : decode kY_Reader_markClause.2.1 26 = .ok (.ishl, 1) := by decide +kernel
theorem d_Reader_markClause_27 : decode kY_Reader_markClause.2.1 27 = .ok (.ior, 1) := by decide +kernel
theorem d_Reader_markClause_28 : decode kY_Reader_markClause.2.1 28 = .ok (.putfield 163, 3) := by decide +kernel
theorem p_Reader_163_6 : mj_fp "TrustDesk$Reader" 163 6 4 (kt_Fund 4) false := ⟨kR_Fund, kF_Fund, 15, "TrustDesk$Fund", kt_Fund, rfl, kg_6, by decide, (mj_in1 (List.mem_of_getElem? (i := 673) (by decide +kernel)) rfl), Or.inl rfl, kto_Fund, kn_Fund, rfl, rfl, fun h => by cases h⟩
theorem d_Reader_markClause_31 : decode kY_Reader_markClause.2.1 31 = .ok (.iconst 0, 1) := by decide +kernel
theorem d_Reader_markClause_32 : decode kY_Reader_markClause.2.1 32 = .ok (.istore_n 2, 1) := by decide +kernel
theorem d_Reader_markClause_33 : decode kY_Reader_markClause.2.1 33 = .ok (.iload_n 2, 1) := by decide +kernel
theorem d_Reader_markClause_34 : decode kY_Reader_markClause.2.1 34 = .ok (.sipush 400, 3) := by decide +kernel
theorem d_Reader_markClause_37 : decode kY_Reader_markClause.2.1 37 = .ok (.if_icmp .ge 44, 3) := by decide +kernel
theorem d_Reader_markClause_81 : decode kY_Reader_markClause.2.1 81 = .ok (.iconst 1, 1) := by decide +kernel
theorem d_Reader_markClause_82 : decode kY_Reader_markClause.2.1 82 = .ok (.ireturn, 1) := by decide +kernel
theorem d_Reader_markClause_40 : decode kY_Reader_markClause.2.1 40 = .ok (.aload_n 0, 1) := by decide +kernel
theorem d_Reader_markClause_41 : decode kY_Reader_markClause.2.1 41 = .ok (.getfield 41, 3) := by decide +kernel
theorem d_Reader_markClause_44 : decode kY_Reader_markClause.2.1 44 = .ok (.iconst 2, 1) := by decide +kernel
theorem d_Reader_markClause_45 : decode kY_Reader_markClause.2.1 45 = .ok (.if_icmp .ne 36, 3) := by decide +kernel
theorem d_Reader_markClause_48 : decode kY_Reader_markClause.2.1 48 = .ok (.aload_n 0, 1) := by decide +kernel
theorem d_Reader_markClause_49 : decode kY_Reader_markClause.2.1 49 = .ok (.iconst 0, 1) := by decide +kernel
theorem d_Reader_markClause_50 : decode kY_Reader_markClause.2.1 50 = .ok (.bipush 7, 2) := by decide +kernel
theorem d_Reader_markClause_52 : decode kY_Reader_markClause.2.1 52 = .ok (.invokevirtual 107, 3) := by decide +kernel
theorem d_Reader_markClause_55 : decode kY_Reader_markClause.2.1 55 = .ok (.ifCond .ne 5, 3) := by decide +kernel
theorem d_Reader_markClause_60 : decode kY_Reader_markClause.2.1 60 = .ok (.aload_n 1, 1) := by decide +kernel
theorem d_Reader_markClause_61 : decode kY_Reader_markClause.2.1 61 = .ok (.dup, 1) := by decide +kernel
theorem d_Reader_markClause_62 : decode kY_Reader_markClause.2.1 62 = .ok (.getfield 163, 3) := by decide +kernel
theorem d_Reader_markClause_65 : decode kY_Reader_markClause.2.1 65 = .ok (.iconst 1, 1) := by decide +kernel
theorem d_Reader_markClause_66 : decode kY_Reader_markClause.2.1 66 = .ok (.aload_n 0, 1) := by decide +kernel
theorem d_Reader_markClause_67 : decode kY_Reader_markClause.2.1 67 = .ok (.getfield 111, 3) := by decide +kernel
theorem d_Reader_markClause_70 : decode kY_Reader_markClause.2.1 70 = .ok (.ishl, 1) := by decide +kernel
theorem d_Reader_markClause_71 : decode kY_Reader_markClause.2.1 71 = .ok (.ior, 1) := by decide +kernel
theorem d_Reader_markClause_72 : decode kY_Reader_markClause.2.1 72 = .ok (.putfield 163, 3) := by decide +kernel
theorem d_Reader_markClause_75 : decode kY_Reader_markClause.2.1 75 = .ok (.iinc 2 1, 3) := by decide +kernel
theorem d_Reader_markClause_78 : decode kY_Reader_markClause.2.1 78 = .ok (.goto (-45), 3) := by decide +kernel
theorem d_Reader_markClause_58 : decode kY_Reader_markClause.2.1 58 = .ok (.iconst 0, 1) := by decide +kernel
theorem d_Reader_markClause_59 : decode kY_Reader_markClause.2.1 59 = .ok (.ireturn, 1) := by decide +kernel
theorem d_Reader_markClause_14 : decode kY_Reader_markClause.2.1 14 = .ok (.iconst 0, 1) := by decide +kernel
theorem d_Reader_markClause_15 : decode kY_Reader_markClause.2.1 15 = .ok (.ireturn, 1) := by decide +kernel
def w_Reader_markClause : List Nat := [604, 901, 902, 909, 910, 911, 912, 913, 914]
theorem tc_Reader_markClause {g : mj_G} {l : Launch} {d : Nat} {T0 : tm_H} {M0 : mj_M} {n0 x9 : Nat} {o0 : Nat} {o1 : Nat} (h_o0 : T0 o0 = some (0, 9, 0)) (h_o1 : T0 o1 = some (0, 6, 0)) (I0 : tm_I tm_FT (tm_in w_Reader_markClause) x9 T0 M0 n0 T0 M0 n0) : mj_Met g l kY_Reader_markClause (d + 2) [.ref o0, .ref o1] M0 n0 0 0 (tm_Q tm_FT (tm_in w_Reader_markClause) x9 T0 M0 n0 (fun r _ _ => ∃ v : Int32, r = some (.int v) ∧ 0 ≤ v.toInt ∧ v.toInt ≤ 1)) := by
  refine mj_enter (by decide) (Nat.le_of_ble_eq_true rfl) ?_
  refine mv_aload_n d_Reader_markClause_0 rfl rfl ?_
  obtain ⟨_, b7, -⟩ := I0.1 _ _ h_o0
  refine mv_callV (kc' := 0) (ks' := 0) (As := []) (st9 := [.ref o0]) d_Reader_markClause_1 lV_Reader_82 b7 rfl (tc_Reader_advance (d := (d + 1)) (x9 := x9) (o0 := o0) h_o0 I0.start) rfl (Nat.le_of_ble_eq_true rfl) (Nat.le_of_ble_eq_true rfl) (Nat.le_of_ble_eq_true rfl) (hst := rfl) (fun b1r M2 n3 b1 => ?_)
  obtain ⟨T4, J5, rfl⟩ := b1
  have I6 := I0.call J5 (tm_sub (by decide)) (Or.inl rfl)
  have t8 := J5.up h_o0
  have t9 := J5.up h_o1
  refine mv_aload_n d_Reader_markClause_4 rfl rfl ?_
  refine mv_iconst (v := 0) d_Reader_markClause_5 (by decide) ?_
  refine mv_bipush (v := 7) d_Reader_markClause_6 (by decide) ?_
  obtain ⟨_, b16, -⟩ := I6.1 _ _ t8
  refine mv_callV (kc' := 0) (ks' := 0) (As := [.int 0, .int 7]) (st9 := [.int 7, .int 0, .ref o0]) d_Reader_markClause_8 lV_Reader_107 b16 rfl (tc_Reader_numeral (d := d) (x9 := x9) (o0 := o0) (x1 := 0) (x2 := 7) t8 I6.start) rfl (Nat.le_of_ble_eq_true rfl) (Nat.le_of_ble_eq_true rfl) (Nat.le_of_ble_eq_true rfl) (hst := rfl) (fun b10r M11 n12 b10 => ?_)
  obtain ⟨T13, J14, v17, rfl, b18, b19⟩ := b10
  have I15 := I6.call J14 (tm_sub (by decide)) (Or.inl rfl)
  have t20 := J14.up t8
  have t21 := J14.up t9
  have := mz_hi v17
  refine mv_if_neZ (tgt := 16) (a := v17.toInt) d_Reader_markClause_11 (by decide) rfl (fun b22 => ?_) (fun b22 => ?_)
  · refine mv_aload_n d_Reader_markClause_16 rfl rfl ?_
    refine mv_dup d_Reader_markClause_17 rfl ?_
    obtain ⟨v24, q23⟩ := tm_atI I15 t21 (k := 4) rfl
    refine tr_getK q23 d_Reader_markClause_18 f_Reader_163_6 ?_
    refine mv_iconst (v := 1) d_Reader_markClause_21 (by decide) ?_
    refine mv_aload_n d_Reader_markClause_22 rfl rfl ?_
    obtain ⟨v26, q25⟩ := tm_atI I15 t20 (k := 14) rfl
    refine tr_getK q25 d_Reader_markClause_23 f_Reader_111_9 ?_
    refine mv_ishl d_Reader_markClause_26 ?_
    refine mv_ior d_Reader_markClause_27 ?_
    refine tr_putK tm_okF I15 t21 (k := 4) rfl ⟨_, rfl⟩ (Or.inl (by decide)) d_Reader_markClause_28 p_Reader_163_6 rfl rfl (fun M27 I28 q29 K30 => ?_)
    refine mv_iconst (v := 0) d_Reader_markClause_31 (by decide) ?_
    refine mv_istore_n (lv' := [(2, .int 0), (0, .ref o0), (1, .ref o1)]) d_Reader_markClause_32 rfl (by decide) rfl ?_
    have L33_31 : ∀ (k : Nat) (i2_31 : Int32) (T_31 : tm_H) (M_31 : mj_M) (n_31 : Nat), tm_I tm_FT (tm_in w_Reader_markClause) x9 T0 M0 n0 T_31 M_31 n_31 → T_31 o0 = some (0, 9, 0) → T_31 o1 = some (0, 6, 0) → 0 ≤ i2_31.toInt → 2147483647 - i2_31.toInt < (k : Int) → mj_V g l kY_Reader_markClause (d + 2) 33 [(2, .int i2_31), (0, .ref o0), (1, .ref o1)] [] M_31 n_31 0 0 (tm_Q tm_FT (tm_in w_Reader_markClause) x9 T0 M0 n0 (fun r _ _ => ∃ v : Int32, r = some (.int v) ∧ 0 ≤ v.toInt ∧ v.toInt ≤ 1)) := by
      intro k31
      induction k31 with
      | zero =>
        intro i2_31 T_31 M_31 n_31 I_31 h_q0_31 h_q1_31 iv0_31 hk31
        have := mz_hi i2_31
        omega
      | succ k31 ih31 =>
        intro i2_31 T_31 M_31 n_31 I_31 h_q0_31 h_q1_31 iv0_31 hk31
        refine mv_iload_n d_Reader_markClause_33 rfl rfl ?_
        refine mv_sipush (v := 400) d_Reader_markClause_34 (by decide) ?_
        have := mz_hi i2_31
        refine mv_icmp_geZ (tgt := 81) (a := i2_31.toInt) (b := 400) d_Reader_markClause_37 (by decide) rfl (by decide) (fun b32 => ?_) (fun b32 => ?_)
        · refine mv_iconst (v := 1) d_Reader_markClause_81 (by decide) ?_
          exact mv_iret d_Reader_markClause_82 rfl (by decide) ⟨_, I_31, _, rfl, by decide, by decide⟩
        · refine mv_aload_n d_Reader_markClause_40 rfl rfl ?_
          obtain ⟨v34, q33⟩ := tm_atI I_31 h_q0_31 (k := 10) rfl
          refine tr_getK q33 d_Reader_markClause_41 f_Reader_41_9 ?_
          refine mv_iconst (v := 2) d_Reader_markClause_44 (by decide) ?_
          have := mz_hi v34
          refine mv_icmp_neZ (tgt := 81) (a := v34.toInt) (b := 2) d_Reader_markClause_45 (by decide) rfl (by decide) (fun b35 => ?_) (fun b35 => ?_)
          · refine mv_iconst (v := 1) d_Reader_markClause_81 (by decide) ?_
            exact mv_iret d_Reader_markClause_82 rfl (by decide) ⟨_, I_31, _, rfl, by decide, by decide⟩
          · refine mv_aload_n d_Reader_markClause_48 rfl rfl ?_
            refine mv_iconst (v := 0) d_Reader_markClause_49 (by decide) ?_
            refine mv_bipush (v := 7) d_Reader_markClause_50 (by decide) ?_
            obtain ⟨_, b42, -⟩ := I_31.1 _ _ h_q0_31
            refine mv_callV (kc' := 0) (ks' := 0) (As := [.int 0, .int 7]) (st9 := [.int 7, .int 0, .ref o0]) d_Reader_markClause_52 lV_Reader_107 b42 rfl (tc_Reader_numeral (d := d) (x9 := x9) (o0 := o0) (x1 := 0) (x2 := 7) h_q0_31 I_31.start) rfl (Nat.le_of_ble_eq_true rfl) (Nat.le_of_ble_eq_true rfl) (Nat.le_of_ble_eq_true rfl) (hst := rfl) (fun b36r M37 n38 b36 => ?_)
            obtain ⟨T39, J40, v43, rfl, b44, b45⟩ := b36
            have I41 := I_31.call J40 (tm_sub (by decide)) (Or.inl rfl)
            have t46 := J40.up h_q0_31
            have t47 := J40.up h_q1_31
            have := mz_hi v43
            refine mv_if_neZ (tgt := 60) (a := v43.toInt) d_Reader_markClause_55 (by decide) rfl (fun b48 => ?_) (fun b48 => ?_)
            · refine mv_aload_n d_Reader_markClause_60 rfl rfl ?_
              refine mv_dup d_Reader_markClause_61 rfl ?_
              obtain ⟨v50, q49⟩ := tm_atI I41 t47 (k := 4) rfl
              refine tr_getK q49 d_Reader_markClause_62 f_Reader_163_6 ?_
              refine mv_iconst (v := 1) d_Reader_markClause_65 (by decide) ?_
              refine mv_aload_n d_Reader_markClause_66 rfl rfl ?_
              obtain ⟨v52, q51⟩ := tm_atI I41 t46 (k := 14) rfl
              refine tr_getK q51 d_Reader_markClause_67 f_Reader_111_9 ?_
              refine mv_ishl d_Reader_markClause_70 ?_
              refine mv_ior d_Reader_markClause_71 ?_
              refine tr_putK tm_okF I41 t47 (k := 4) rfl ⟨_, rfl⟩ (Or.inl (by decide)) d_Reader_markClause_72 p_Reader_163_6 rfl rfl (fun M53 I54 q55 K56 => ?_)
              refine mv_iinc (v := (i2_31 + 1)) (lv' := [(2, .int (i2_31 + 1)), (0, .ref o0), (1, .ref o1)]) d_Reader_markClause_75 rfl rfl (by decide) rfl ?_
              refine mv_goto (tgt := 33) d_Reader_markClause_78 (by decide) ?_
              have b57 : (i2_31 + 1).toInt = i2_31.toInt + 1 := mz_addn 1 1 (by decide) (by have := mz_lo i2_31; omega) (by have := mz_hi i2_31; omega)
              exact ih31 (i2_31 + 1) T39 M53 n38 I54 t46 t47 (by first | omega | decide) (by omega)
            · refine mv_iconst (v := 0) d_Reader_markClause_58 (by decide) ?_
              exact mv_iret d_Reader_markClause_59 rfl (by decide) ⟨_, I41, _, rfl, by decide, by decide⟩
    exact L33_31 4294967296 0 T13 M27 n12 I28 t20 t21 (by first | omega | decide) (by show (2147483647 : Int) - _ < _; decide)
  · refine mv_iconst (v := 0) d_Reader_markClause_14 (by decide) ?_
    exact mv_iret d_Reader_markClause_15 rfl (by decide) ⟨_, I15, _, rfl, by decide, by decide⟩
abbrev kY_Reader_numberValue : mj_Y := (⟨"TrustDesk$Reader", "numberValue", "(II)I"⟩, prog_10_method_36_code, 5, (Option.some Jvm.ClassFile.FieldType.int))
theorem d_Reader_numberValue_0 : decode kY_Reader_numberValue.2.1 0 = .ok (.iload_n 2, 1) := by decide +kernel
theorem d_Reader_numberValue_1 : decode kY_Reader_numberValue.2.1 1 = .ok (.iload_n 1, 1) := by decide +kernel
theorem d_Reader_numberValue_2 : decode kY_Reader_numberValue.2.1 2 = .ok (.isub, 1) := by decide +kernel
theorem d_Reader_numberValue_3 : decode kY_Reader_numberValue.2.1 3 = .ok (.iconst 4, 1) := by decide +kernel
theorem d_Reader_numberValue_4 : decode kY_Reader_numberValue.2.1 4 = .ok (.if_icmp .le 5, 3) := by decide +kernel
theorem d_Reader_numberValue_9 : decode kY_Reader_numberValue.2.1 9 = .ok (.iconst 0, 1) := by decide +kernel
theorem d_Reader_numberValue_10 : decode kY_Reader_numberValue.2.1 10 = .ok (.istore_n 3, 1) := by decide +kernel
theorem d_Reader_numberValue_11 : decode kY_Reader_numberValue.2.1 11 = .ok (.iload_n 1, 1) := by decide +kernel
theorem d_Reader_numberValue_12 : decode kY_Reader_numberValue.2.1 12 = .ok (.istore 4, 2) := by decide +kernel
theorem d_Reader_numberValue_14 : decode kY_Reader_numberValue.2.1 14 = .ok (.iload 4, 2) := by decide +kernel
theorem d_Reader_numberValue_16 : decode kY_Reader_numberValue.2.1 16 = .ok (.iload_n 2, 1) := by decide +kernel
theorem d_Reader_numberValue_17 : decode kY_Reader_numberValue.2.1 17 = .ok (.if_icmp .ge 24, 3) := by decide +kernel
theorem d_Reader_numberValue_41 : decode kY_Reader_numberValue.2.1 41 = .ok (.iload_n 3, 1) := by decide +kernel
theorem d_Reader_numberValue_42 : decode kY_Reader_numberValue.2.1 42 = .ok (.ireturn, 1) := by decide +kernel
theorem d_Reader_numberValue_20 : decode kY_Reader_numberValue.2.1 20 = .ok (.iload_n 3, 1) := by decide +kernel
theorem d_Reader_numberValue_21 : decode kY_Reader_numberValue.2.1 21 = .ok (.bipush 10, 2) := by decide +kernel
theorem d_Reader_numberValue_23 : decode kY_Reader_numberValue.2.1 23 = .ok (.imul, 1) := by decide +kernel
theorem d_Reader_numberValue_24 : decode kY_Reader_numberValue.2.1 24 = .ok (.aload_n 0, 1) := by decide +kernel
theorem d_Reader_numberValue_25 : decode kY_Reader_numberValue.2.1 25 = .ok (.iload 4, 2) := by decide +kernel
theorem d_Reader_numberValue_27 : decode kY_Reader_numberValue.2.1 27 = .ok (.invokevirtual 261, 3) := by decide +kernel
theorem lV_Reader_261 : mj_lV "TrustDesk$Reader" 261 kY_Reader_byteAt 1 := ⟨⟨(mj_in1 (List.mem_of_getElem? (i := 373) (by decide +kernel)) rfl), (mj_in1 (List.mem_of_getElem? (i := 3) (by decide +kernel)) rfl), (mj_in1 (List.mem_of_getElem? (i := 376) (by decide +kernel)) rfl), by decide, rfl, by decide⟩, (mj_in1 (List.mem_of_getElem? (i := 375) (by decide +kernel)) rfl), (mj_in (List.mem_append_left _ (List.mem_of_getElem? (i := 4) (by decide +kernel))) rfl)⟩
theorem d_Reader_numberValue_30 : decode kY_Reader_numberValue.2.1 30 = .ok (.iadd, 1) := by decide +kernel
theorem d_Reader_numberValue_31 : decode kY_Reader_numberValue.2.1 31 = .ok (.bipush 48, 2) := by decide +kernel
theorem d_Reader_numberValue_33 : decode kY_Reader_numberValue.2.1 33 = .ok (.isub, 1) := by decide +kernel
theorem d_Reader_numberValue_34 : decode kY_Reader_numberValue.2.1 34 = .ok (.istore_n 3, 1) := by decide +kernel
theorem d_Reader_numberValue_35 : decode kY_Reader_numberValue.2.1 35 = .ok (.iinc 4 1, 3) := by decide +kernel
theorem d_Reader_numberValue_38 : decode kY_Reader_numberValue.2.1 38 = .ok (.goto (-24), 3) := by decide +kernel
theorem d_Reader_numberValue_7 : decode kY_Reader_numberValue.2.1 7 = .ok (.iconst (-1), 1) := by decide +kernel
theorem d_Reader_numberValue_8 : decode kY_Reader_numberValue.2.1 8 = .ok (.ireturn, 1) := by decide +kernel
def w_Reader_numberValue : List Nat := []
theorem tc_Reader_numberValue {g : mj_G} {l : Launch} {d : Nat} {T0 : tm_H} {M0 : mj_M} {n0 x9 : Nat} {o0 : Nat} {x1 : Int32} {x2 : Int32} (h_o0 : T0 o0 = some (0, 9, 0)) (I0 : tm_I tm_FT (tm_in w_Reader_numberValue) x9 T0 M0 n0 T0 M0 n0) : mj_Met g l kY_Reader_numberValue (d + 1) [.ref o0, .int x1, .int x2] M0 n0 0 0 (tm_Q tm_FT (tm_in w_Reader_numberValue) x9 T0 M0 n0 (fun r _ _ => ∃ v : Int32, r = some (.int v))) := by
  refine mj_enter (by decide) (Nat.le_of_ble_eq_true rfl) ?_
  refine mv_iload_n d_Reader_numberValue_0 rfl rfl ?_
  refine mv_iload_n d_Reader_numberValue_1 rfl rfl ?_
  refine mv_isub d_Reader_numberValue_2 ?_
  refine mv_iconst (v := 4) d_Reader_numberValue_3 (by decide) ?_
  have := mz_hi (x2 - x1)
  refine mv_icmp_leZ (tgt := 9) (a := (x2 - x1).toInt) (b := 4) d_Reader_numberValue_4 (by decide) rfl (by decide) (fun b1 => ?_) (fun b1 => ?_)
  · refine mv_iconst (v := 0) d_Reader_numberValue_9 (by decide) ?_
    refine mv_istore_n (lv' := [(3, .int 0), (0, .ref o0), (1, .int x1), (2, .int x2)]) d_Reader_numberValue_10 rfl (by decide) rfl ?_
    refine mv_iload_n d_Reader_numberValue_11 rfl rfl ?_
    refine mv_istore (lv' := [(4, .int x1), (3, .int 0), (0, .ref o0), (1, .int x1), (2, .int x2)]) d_Reader_numberValue_12 (by decide) rfl ?_
    have L14_2 : ∀ (k : Nat) (i4_2 : Int32) (i3_2 : Int32) (T_2 : tm_H) (M_2 : mj_M) (n_2 : Nat), tm_I tm_FT (tm_in w_Reader_numberValue) x9 T0 M0 n0 T_2 M_2 n_2 → T_2 o0 = some (0, 9, 0) → 2147483647 - i4_2.toInt < (k : Int) → mj_V g l kY_Reader_numberValue (d + 1) 14 [(4, .int i4_2), (3, .int i3_2), (0, .ref o0), (1, .int x1), (2, .int x2)] [] M_2 n_2 0 0 (tm_Q tm_FT (tm_in w_Reader_numberValue) x9 T0 M0 n0 (fun r _ _ => ∃ v : Int32, r = some (.int v))) := by
      intro k2
      induction k2 with
      | zero =>
        intro i4_2 i3_2 T_2 M_2 n_2 I_2 h_q0_2 hk2
        have := mz_hi i4_2
        omega
      | succ k2 ih2 =>
        intro i4_2 i3_2 T_2 M_2 n_2 I_2 h_q0_2 hk2
        refine mv_iload d_Reader_numberValue_14 rfl ?_
        refine mv_iload_n d_Reader_numberValue_16 rfl rfl ?_
        have := mz_hi i4_2
        have := mz_hi x2
        refine mv_icmp_geZ (tgt := 41) (a := i4_2.toInt) (b := x2.toInt) d_Reader_numberValue_17 (by decide) rfl rfl (fun b3 => ?_) (fun b3 => ?_)
        · refine mv_iload_n d_Reader_numberValue_41 rfl rfl ?_
          exact mv_iret d_Reader_numberValue_42 rfl (by first | rfl | decide) ⟨_, I_2, _, rfl⟩
        · refine mv_iload_n d_Reader_numberValue_20 rfl rfl ?_
          refine mv_bipush (v := 10) d_Reader_numberValue_21 (by decide) ?_
          refine mv_imul d_Reader_numberValue_23 ?_
          refine mv_aload_n d_Reader_numberValue_24 rfl rfl ?_
          refine mv_iload d_Reader_numberValue_25 rfl ?_
          obtain ⟨_, b10, -⟩ := I_2.1 _ _ h_q0_2
          refine mv_callV (kc' := 0) (ks' := 0) (As := [.int i4_2]) (st9 := [.int i4_2, .ref o0, .int (i3_2 * 10)]) d_Reader_numberValue_27 lV_Reader_261 b10 rfl (tc_Reader_byteAt (d := d) (x9 := x9) (o0 := o0) (x1 := i4_2) h_q0_2 I_2.start) rfl (Nat.le_of_ble_eq_true rfl) (Nat.le_of_ble_eq_true rfl) (Nat.le_of_ble_eq_true rfl) (hst := rfl) (fun b4r M5 n6 b4 => ?_)
          obtain ⟨T7, J8, v11, rfl⟩ := b4
          have I9 := I_2.call J8 (tm_sub (by decide)) (Or.inl rfl)
          have t12 := J8.up h_q0_2
          refine mv_iadd d_Reader_numberValue_30 ?_
          refine mv_bipush (v := 48) d_Reader_numberValue_31 (by decide) ?_
          refine mv_isub d_Reader_numberValue_33 ?_
          refine mv_istore_n (lv' := [(3, .int (((i3_2 * 10) + v11) - 48)), (4, .int i4_2), (0, .ref o0), (1, .int x1), (2, .int x2)]) d_Reader_numberValue_34 rfl (by decide) rfl ?_
          refine mv_iinc (v := (i4_2 + 1)) (lv' := [(4, .int (i4_2 + 1)), (3, .int (((i3_2 * 10) + v11) - 48)), (0, .ref o0), (1, .int x1), (2, .int x2)]) d_Reader_numberValue_35 rfl rfl (by decide) rfl ?_
          refine mv_goto (tgt := 14) d_Reader_numberValue_38 (by decide) ?_
          have b13 : (i4_2 + 1).toInt = i4_2.toInt + 1 := mz_addn 1 1 (by decide) (by have := mz_lo i4_2; omega) (by have := mz_hi i4_2; omega)
          exact ih2 (i4_2 + 1) (((i3_2 * 10) + v11) - 48) T7 M5 n6 I9 t12 (by omega)
    exact L14_2 4294967296 x1 0 T0 M0 n0 I0 h_o0 (by have := mz_lo x1; omega)
  · refine mv_iconst (v := (-1)) d_Reader_numberValue_7 (by decide) ?_
    exact mv_iret d_Reader_numberValue_8 rfl (by first | rfl | decide) ⟨_, I0, _, rfl⟩
abbrev kY_Reader_openBracket : mj_Y := (⟨"TrustDesk$Reader", "openBracket", "()Z"⟩, prog_10_method_22_code, 1, (Option.some Jvm.ClassFile.FieldType.boolean))
theorem d_Reader_openBracket_0 : decode kY_Reader_openBracket.2.1 0 = .ok (.aload_n 0, 1) := by decide +kernel
theorem d_Reader_openBracket_1 : decode kY_Reader_openBracket.2.1 1 = .ok (.getfield 73, 3) := by decide +kernel
theorem f_Reader_73_9 : mj_fl "TrustDesk$Reader" 73 9 16 := ⟨kR_Reader, kF_Reader, 19, "TrustDesk$Reader", rfl, kg_9, by decide, (mj_in1 (List.mem_of_getElem? (i := 88) (by decide +kernel)) rfl), Or.inl rfl⟩
theorem d_Reader_openBracket_4 : decode kY_Reader_openBracket.2.1 4 = .ok (.iconst 4, 1) := by decide +kernel
theorem d_Reader_openBracket_5 : decode kY_Reader_openBracket.2.1 5 = .ok (.if_icmp .lt 9, 3) := by decide +kernel
theorem d_Reader_openBracket_14 : decode kY_Reader_openBracket.2.1 14 = .ok (.aload_n 0, 1) := by decide +kernel
theorem d_Reader_openBracket_15 : decode kY_Reader_openBracket.2.1 15 = .ok (.dup, 1) := by decide +kernel
theorem d_Reader_openBracket_16 : decode kY_Reader_openBracket.2.1 16 = .ok (.getfield 73, 3) := by decide +kernel
theorem d_Reader_openBracket_19 : decode kY_Reader_openBracket.2.1 19 = .ok (.iconst 1, 1) := by decide +kernel
theorem d_Reader_openBracket_20 : decode kY_Reader_openBracket.2.1 20 = .ok (.iadd, 1) := by decide +kernel
theorem d_Reader_openBracket_21 : decode kY_Reader_openBracket.2.1 21 = .ok (.putfield 73, 3) := by decide +kernel
theorem p_Reader_73_9 : mj_fp "TrustDesk$Reader" 73 9 16 (kt_Reader 16) false := ⟨kR_Reader, kF_Reader, 19, "TrustDesk$Reader", kt_Reader, rfl, kg_9, by decide, (mj_in1 (List.mem_of_getElem? (i := 88) (by decide +kernel)) rfl), Or.inl rfl, kto_Reader, kn_Reader, rfl, rfl, fun h => by cases h⟩
theorem d_Reader_openBracket_24 : decode kY_Reader_openBracket.2.1 24 = .ok (.aload_n 0, 1) := by decide +kernel
theorem d_Reader_openBracket_25 : decode kY_Reader_openBracket.2.1 25 = .ok (.invokevirtual 82, 3) := by decide +kernel
theorem d_Reader_openBracket_28 : decode kY_Reader_openBracket.2.1 28 = .ok (.iconst 1, 1) := by decide +kernel
theorem d_Reader_openBracket_29 : decode kY_Reader_openBracket.2.1 29 = .ok (.ireturn, 1) := by decide +kernel
theorem d_Reader_openBracket_8 : decode kY_Reader_openBracket.2.1 8 = .ok (.aload_n 0, 1) := by decide +kernel
theorem d_Reader_openBracket_9 : decode kY_Reader_openBracket.2.1 9 = .ok (.iconst 4, 1) := by decide +kernel
theorem d_Reader_openBracket_10 : decode kY_Reader_openBracket.2.1 10 = .ok (.invokevirtual 56, 3) := by decide +kernel
theorem d_Reader_openBracket_13 : decode kY_Reader_openBracket.2.1 13 = .ok (.ireturn, 1) := by decide +kernel
def w_Reader_openBracket : List Nat := [901, 902, 909, 910, 911, 912, 913, 916]
theorem tc_Reader_openBracket {g : mj_G} {l : Launch} {d : Nat} {T0 : tm_H} {M0 : mj_M} {n0 x9 : Nat} {o0 : Nat} (h_o0 : T0 o0 = some (0, 9, 0)) (I0 : tm_I tm_FT (tm_in w_Reader_openBracket) x9 T0 M0 n0 T0 M0 n0) : mj_Met g l kY_Reader_openBracket (d + 1) [.ref o0] M0 n0 0 0 (tm_Q tm_FT (tm_in w_Reader_openBracket) x9 T0 M0 n0 (fun r _ _ => ∃ v : Int32, r = some (.int v) ∧ 0 ≤ v.toInt ∧ v.toInt ≤ 1)) := by
  refine mj_enter (by decide) (Nat.le_of_ble_eq_true rfl) ?_
  refine mv_aload_n d_Reader_openBracket_0 rfl rfl ?_
  obtain ⟨v2, q1⟩ := tm_atI I0 h_o0 (k := 16) rfl
  refine tr_getK q1 d_Reader_openBracket_1 f_Reader_73_9 ?_
  refine mv_iconst (v := 4) d_Reader_openBracket_4 (by decide) ?_
  have := mz_hi v2
  refine mv_icmp_ltZ (tgt := 14) (a := v2.toInt) (b := 4) d_Reader_openBracket_5 (by decide) rfl (by decide) (fun b3 => ?_) (fun b3 => ?_)
  · refine mv_aload_n d_Reader_openBracket_14 rfl rfl ?_
    refine mv_dup d_Reader_openBracket_15 rfl ?_
    refine tr_getK (k := 16) q1 d_Reader_openBracket_16 f_Reader_73_9 ?_
    refine mv_iconst (v := 1) d_Reader_openBracket_19 (by decide) ?_
    refine mv_iadd d_Reader_openBracket_20 ?_
    refine tr_putK tm_okF I0 h_o0 (k := 16) rfl ⟨_, rfl⟩ (Or.inl (by decide)) d_Reader_openBracket_21 p_Reader_73_9 rfl rfl (fun M4 I5 q6 K7 => ?_)
    refine mv_aload_n d_Reader_openBracket_24 rfl rfl ?_
    obtain ⟨_, b14, -⟩ := I5.1 _ _ h_o0
    refine mv_callV (kc' := 0) (ks' := 0) (As := []) (st9 := [.ref o0]) d_Reader_openBracket_25 lV_Reader_82 b14 rfl (tc_Reader_advance (d := d) (x9 := x9) (o0 := o0) h_o0 I5.start) rfl (Nat.le_of_ble_eq_true rfl) (Nat.le_of_ble_eq_true rfl) (Nat.le_of_ble_eq_true rfl) (hst := rfl) (fun b8r M9 n10 b8 => ?_)
    obtain ⟨T11, J12, rfl⟩ := b8
    have I13 := I5.call J12 (tm_sub (by decide)) (Or.inl rfl)
    have t15 := J12.up h_o0
    have q16 := J12.keep h_o0 (by decide) q6
    refine mv_iconst (v := 1) d_Reader_openBracket_28 (by decide) ?_
    exact mv_iret d_Reader_openBracket_29 rfl (by decide) ⟨_, I13, _, rfl, by decide, by decide⟩
  · refine mv_aload_n d_Reader_openBracket_8 rfl rfl ?_
    refine mv_iconst (v := 4) d_Reader_openBracket_9 (by decide) ?_
    obtain ⟨_, b23, -⟩ := I0.1 _ _ h_o0
    refine mv_callV (kc' := 0) (ks' := 0) (As := [.int 4]) (st9 := [.int 4, .ref o0]) d_Reader_openBracket_10 lV_Reader_56 b23 rfl (tc_Reader_refuse (d := d) (x9 := x9) (o0 := o0) (x1 := 4) h_o0 I0.start) rfl (Nat.le_of_ble_eq_true rfl) (Nat.le_of_ble_eq_true rfl) (Nat.le_of_ble_eq_true rfl) (hst := rfl) (fun b17r M18 n19 b17 => ?_)
    obtain ⟨T20, J21, v24, rfl, b25, b26⟩ := b17
    have I22 := I0.call J21 (tm_sub (by decide)) (Or.inl rfl)
    have t27 := J21.up h_o0
    have q28 := J21.keep h_o0 (by decide) q1
    exact mv_iret d_Reader_openBracket_13 rfl (mz_nb (by omega) (by omega)) ⟨_, I22, _, rfl, by omega, by omega⟩
abbrev kY_Reader_ruleNumber : mj_Y := (⟨"TrustDesk$Reader", "ruleNumber", "(LTrustDesk$Act;I)Z"⟩, prog_10_method_8_code, 3, (Option.some Jvm.ClassFile.FieldType.boolean))
theorem d_Reader_ruleNumber_0 : decode kY_Reader_ruleNumber.2.1 0 = .ok (.iload_n 2, 1) := by decide +kernel
theorem d_Reader_ruleNumber_1 : decode kY_Reader_ruleNumber.2.1 1 = .ok (.ifCond .lt 36, 3) := by decide +kernel
theorem d_Reader_ruleNumber_37 : decode kY_Reader_ruleNumber.2.1 37 = .ok (.iconst 0, 1) := by decide +kernel
theorem d_Reader_ruleNumber_38 : decode kY_Reader_ruleNumber.2.1 38 = .ok (.ireturn, 1) := by decide +kernel
theorem d_Reader_ruleNumber_4 : decode kY_Reader_ruleNumber.2.1 4 = .ok (.iload_n 2, 1) := by decide +kernel
theorem d_Reader_ruleNumber_5 : decode kY_Reader_ruleNumber.2.1 5 = .ok (.getstatic 101, 3) := by decide +kernel
theorem d_Reader_ruleNumber_8 : decode kY_Reader_ruleNumber.2.1 8 = .ok (.arraylength, 1) := by decide +kernel
theorem d_Reader_ruleNumber_9 : decode kY_Reader_ruleNumber.2.1 9 = .ok (.if_icmp .ge 28, 3) := by decide +kernel
theorem d_Reader_ruleNumber_12 : decode kY_Reader_ruleNumber.2.1 12 = .ok (.iload_n 2, 1) := by decide +kernel
theorem d_Reader_ruleNumber_13 : decode kY_Reader_ruleNumber.2.1 13 = .ok (.getstatic 104, 3) := by decide +kernel
theorem d_Reader_ruleNumber_16 : decode kY_Reader_ruleNumber.2.1 16 = .ok (.arraylength, 1) := by decide +kernel
theorem d_Reader_ruleNumber_17 : decode kY_Reader_ruleNumber.2.1 17 = .ok (.if_icmp .ge 20, 3) := by decide +kernel
theorem d_Reader_ruleNumber_20 : decode kY_Reader_ruleNumber.2.1 20 = .ok (.aload_n 0, 1) := by decide +kernel
theorem d_Reader_ruleNumber_21 : decode kY_Reader_ruleNumber.2.1 21 = .ok (.getstatic 101, 3) := by decide +kernel
theorem d_Reader_ruleNumber_24 : decode kY_Reader_ruleNumber.2.1 24 = .ok (.iload_n 2, 1) := by decide +kernel
theorem d_Reader_ruleNumber_25 : decode kY_Reader_ruleNumber.2.1 25 = .ok (.iaload, 1) := by decide +kernel
theorem d_Reader_ruleNumber_26 : decode kY_Reader_ruleNumber.2.1 26 = .ok (.getstatic 104, 3) := by decide +kernel
theorem d_Reader_ruleNumber_29 : decode kY_Reader_ruleNumber.2.1 29 = .ok (.iload_n 2, 1) := by decide +kernel
theorem d_Reader_ruleNumber_30 : decode kY_Reader_ruleNumber.2.1 30 = .ok (.iaload, 1) := by decide +kernel
theorem d_Reader_ruleNumber_31 : decode kY_Reader_ruleNumber.2.1 31 = .ok (.invokevirtual 107, 3) := by decide +kernel
theorem d_Reader_ruleNumber_34 : decode kY_Reader_ruleNumber.2.1 34 = .ok (.ifCond .ne 5, 3) := by decide +kernel
theorem d_Reader_ruleNumber_39 : decode kY_Reader_ruleNumber.2.1 39 = .ok (.aload_n 1, 1) := by decide +kernel
theorem d_Reader_ruleNumber_40 : decode kY_Reader_ruleNumber.2.1 40 = .ok (.iload_n 2, 1) := by decide +kernel
theorem d_Reader_ruleNumber_41 : decode kY_Reader_ruleNumber.2.1 41 = .ok (.aload_n 0, 1) := by decide +kernel
theorem d_Reader_ruleNumber_42 : decode kY_Reader_ruleNumber.2.1 42 = .ok (.getfield 111, 3) := by decide +kernel
theorem d_Reader_ruleNumber_45 : decode kY_Reader_ruleNumber.2.1 45 = .ok (.invokevirtual 114, 3) := by decide +kernel
theorem lV_Reader_114 : mj_lV "TrustDesk$Reader" 114 kY_Act_setRule 2 := ⟨⟨(mj_in1 (List.mem_of_getElem? (i := 621) (by decide +kernel)) rfl), (mj_in1 (List.mem_of_getElem? (i := 6) (by decide +kernel)) rfl), (mj_in1 (List.mem_of_getElem? (i := 624) (by decide +kernel)) rfl), by decide, rfl, by decide⟩, (mj_in1 (List.mem_of_getElem? (i := 622) (by decide +kernel)) rfl), (mj_in1 (List.mem_of_getElem? (i := 623) (by decide +kernel)) rfl)⟩
theorem d_Reader_ruleNumber_48 : decode kY_Reader_ruleNumber.2.1 48 = .ok (.iconst 1, 1) := by decide +kernel
theorem d_Reader_ruleNumber_49 : decode kY_Reader_ruleNumber.2.1 49 = .ok (.ireturn, 1) := by decide +kernel
def w_Reader_ruleNumber : List Nat := [153, 901, 902, 909, 910, 911, 912, 913, 914]
theorem tc_Reader_ruleNumber {g : mj_G} {l : Launch} {d : Nat} {T0 : tm_H} {M0 : mj_M} {n0 x9 : Nat} {o0 : Nat} {o1 : Nat} {x2 : Int32} (h_o0 : T0 o0 = some (0, 9, 0)) (h_o1 : T0 o1 = some (0, 1, 0)) (I0 : tm_I tm_FT (tm_in w_Reader_ruleNumber) x9 T0 M0 n0 T0 M0 n0) : mj_Met g l kY_Reader_ruleNumber (d + 2) [.ref o0, .ref o1, .int x2] M0 n0 0 0 (tm_Q tm_FT (tm_in w_Reader_ruleNumber) x9 T0 M0 n0 (fun r _ _ => ∃ v : Int32, r = some (.int v) ∧ 0 ≤ v.toInt ∧ v.toInt ≤ 1)) := by
  refine mj_enter (by decide) (Nat.le_of_ble_eq_true rfl) ?_
  refine mv_iload_n d_Reader_ruleNumber_0 rfl rfl ?_
  have := mz_hi x2
  refine mv_if_ltZ (tgt := 37) (a := x2.toInt) d_Reader_ruleNumber_1 (by decide) rfl (fun b1 => ?_) (fun b1 => ?_)
  · refine mv_iconst (v := 0) d_Reader_ruleNumber_37 (by decide) ?_
    exact mv_iret d_Reader_ruleNumber_38 rfl (by decide) ⟨_, I0, _, rfl, by decide, by decide⟩
  · refine mv_iload_n d_Reader_ruleNumber_4 rfl rfl ?_
    refine mv_gets2 d_Reader_ruleNumber_5 (mj_in1 (List.mem_of_getElem? (i := 617) (by decide +kernel)) rfl) ?_
    refine mv_alen2 d_Reader_ruleNumber_8 ?_
    have := mz_hi x2
    refine mv_icmp_geZ (tgt := 37) (a := x2.toInt) (b := 6) d_Reader_ruleNumber_9 (by decide) rfl (by decide) (fun b2 => ?_) (fun b2 => ?_)
    · refine mv_iconst (v := 0) d_Reader_ruleNumber_37 (by decide) ?_
      exact mv_iret d_Reader_ruleNumber_38 rfl (by decide) ⟨_, I0, _, rfl, by decide, by decide⟩
    · refine mv_iload_n d_Reader_ruleNumber_12 rfl rfl ?_
      refine mv_gets3 d_Reader_ruleNumber_13 (mj_in1 (List.mem_of_getElem? (i := 619) (by decide +kernel)) rfl) ?_
      refine mv_alen3 d_Reader_ruleNumber_16 ?_
      have := mz_hi x2
      refine mv_icmp_geZ (tgt := 37) (a := x2.toInt) (b := 6) d_Reader_ruleNumber_17 (by decide) rfl (by decide) (fun b3 => absurd b3 (by omega)) (fun b3 => ?_)
      refine mv_aload_n d_Reader_ruleNumber_20 rfl rfl ?_
      refine mv_gets2 d_Reader_ruleNumber_21 (mj_in1 (List.mem_of_getElem? (i := 617) (by decide +kernel)) rfl) ?_
      refine mv_iload_n d_Reader_ruleNumber_24 rfl rfl ?_
      obtain ⟨v4, q5⟩ := tm_rl (i := x2) (by omega) (by omega)
      refine mv_iald2 (v := v4) d_Reader_ruleNumber_25 (vp_in_iff.mpr (by omega)) q5 ?_
      refine mv_gets3 d_Reader_ruleNumber_26 (mj_in1 (List.mem_of_getElem? (i := 619) (by decide +kernel)) rfl) ?_
      refine mv_iload_n d_Reader_ruleNumber_29 rfl rfl ?_
      obtain ⟨v6, q7⟩ := tm_rm (i := x2) (by omega) (by omega)
      refine mv_iald3 (v := v6) d_Reader_ruleNumber_30 (vp_in_iff.mpr (by omega)) q7 ?_
      obtain ⟨_, b14, -⟩ := I0.1 _ _ h_o0
      refine mv_callV (kc' := 0) (ks' := 0) (As := [.int v4, .int v6]) (st9 := [.int v6, .int v4, .ref o0]) d_Reader_ruleNumber_31 lV_Reader_107 b14 rfl (tc_Reader_numeral (d := d) (x9 := x9) (o0 := o0) (x1 := v4) (x2 := v6) h_o0 I0.start) rfl (Nat.le_of_ble_eq_true rfl) (Nat.le_of_ble_eq_true rfl) (Nat.le_of_ble_eq_true rfl) (hst := rfl) (fun b8r M9 n10 b8 => ?_)
      obtain ⟨T11, J12, v15, rfl, b16, b17⟩ := b8
      have I13 := I0.call J12 (tm_sub (by decide)) (Or.inl rfl)
      have t18 := J12.up h_o0
      have t19 := J12.up h_o1
      have := mz_hi v15
      refine mv_if_neZ (tgt := 39) (a := v15.toInt) d_Reader_ruleNumber_34 (by decide) rfl (fun b20 => ?_) (fun b20 => ?_)
      · refine mv_aload_n d_Reader_ruleNumber_39 rfl rfl ?_
        refine mv_iload_n d_Reader_ruleNumber_40 rfl rfl ?_
        refine mv_aload_n d_Reader_ruleNumber_41 rfl rfl ?_
        obtain ⟨v22, q21⟩ := tm_atI I13 t18 (k := 14) rfl
        refine tr_getK q21 d_Reader_ruleNumber_42 f_Reader_111_9 ?_
        obtain ⟨_, b29, -⟩ := I13.1 _ _ t19
        refine mv_callV (kc' := 0) (ks' := 0) (As := [.int x2, .int v22]) (st9 := [.int v22, .int x2, .ref o1]) d_Reader_ruleNumber_45 lV_Reader_114 b29 rfl (tc_Act_setRule (d := (d + 1)) (x9 := x9) (o0 := o1) (x1 := x2) (x2 := v22) t19 I13.start) rfl (Nat.le_of_ble_eq_true rfl) (Nat.le_of_ble_eq_true rfl) (Nat.le_of_ble_eq_true rfl) (hst := rfl) (fun b23r M24 n25 b23 => ?_)
        obtain ⟨T26, J27, rfl⟩ := b23
        have I28 := I13.call J27 (tm_sub (by decide)) (Or.inl rfl)
        have t30 := J27.up t18
        have t31 := J27.up t19
        have q32 := J27.keep t18 (by decide) q21
        refine mv_iconst (v := 1) d_Reader_ruleNumber_48 (by decide) ?_
        exact mv_iret d_Reader_ruleNumber_49 rfl (by decide) ⟨_, I28, _, rfl, by decide, by decide⟩
      · refine mv_iconst (v := 0) d_Reader_ruleNumber_37 (by decide) ?_
        exact mv_iret d_Reader_ruleNumber_38 rfl (by decide) ⟨_, I13, _, rfl, by decide, by decide⟩
abbrev kY_Reader_sign : mj_Y := (⟨"TrustDesk$Reader", "sign", "(C)Z"⟩, prog_10_method_28_code, 2, (Option.some Jvm.ClassFile.FieldType.boolean))
theorem d_Reader_sign_0 : decode kY_Reader_sign.2.1 0 = .ok (.aload_n 0, 1) := by decide +kernel
theorem d_Reader_sign_1 : decode kY_Reader_sign.2.1 1 = .ok (.iload_n 1, 1) := by decide +kernel
theorem d_Reader_sign_2 : decode kY_Reader_sign.2.1 2 = .ok (.invokevirtual 209, 3) := by decide +kernel
theorem d_Reader_sign_5 : decode kY_Reader_sign.2.1 5 = .ok (.ifCond .ne 9, 3) := by decide +kernel
theorem d_Reader_sign_14 : decode kY_Reader_sign.2.1 14 = .ok (.aload_n 0, 1) := by decide +kernel
theorem d_Reader_sign_15 : decode kY_Reader_sign.2.1 15 = .ok (.invokevirtual 82, 3) := by decide +kernel
theorem d_Reader_sign_18 : decode kY_Reader_sign.2.1 18 = .ok (.iconst 1, 1) := by decide +kernel
theorem d_Reader_sign_19 : decode kY_Reader_sign.2.1 19 = .ok (.ireturn, 1) := by decide +kernel
theorem d_Reader_sign_8 : decode kY_Reader_sign.2.1 8 = .ok (.aload_n 0, 1) := by decide +kernel
theorem d_Reader_sign_9 : decode kY_Reader_sign.2.1 9 = .ok (.iconst 1, 1) := by decide +kernel
theorem d_Reader_sign_10 : decode kY_Reader_sign.2.1 10 = .ok (.invokevirtual 56, 3) := by decide +kernel
theorem d_Reader_sign_13 : decode kY_Reader_sign.2.1 13 = .ok (.ireturn, 1) := by decide +kernel
def w_Reader_sign : List Nat := [901, 902, 909, 910, 911, 912, 913]
theorem tc_Reader_sign {g : mj_G} {l : Launch} {d : Nat} {T0 : tm_H} {M0 : mj_M} {n0 x9 : Nat} {o0 : Nat} {x1 : Int32} (h_o0 : T0 o0 = some (0, 9, 0)) (I0 : tm_I tm_FT (tm_in w_Reader_sign) x9 T0 M0 n0 T0 M0 n0) : mj_Met g l kY_Reader_sign (d + 1) [.ref o0, .int x1] M0 n0 0 0 (tm_Q tm_FT (tm_in w_Reader_sign) x9 T0 M0 n0 (fun r _ _ => ∃ v : Int32, r = some (.int v) ∧ 0 ≤ v.toInt ∧ v.toInt ≤ 1)) := by
  refine mj_enter (by decide) (Nat.le_of_ble_eq_true rfl) ?_
  refine mv_aload_n d_Reader_sign_0 rfl rfl ?_
  refine mv_iload_n d_Reader_sign_1 rfl rfl ?_
  obtain ⟨_, b7, -⟩ := I0.1 _ _ h_o0
  refine mv_callV (kc' := 0) (ks' := 0) (As := [.int x1]) (st9 := [.int x1, .ref o0]) d_Reader_sign_2 lV_Reader_209 b7 rfl (tc_Reader_isSign (d := d) (x9 := x9) (o0 := o0) (x1 := x1) h_o0 I0.start) rfl (Nat.le_of_ble_eq_true rfl) (Nat.le_of_ble_eq_true rfl) (Nat.le_of_ble_eq_true rfl) (hst := rfl) (fun b1r M2 n3 b1 => ?_)
  obtain ⟨T4, J5, v8, rfl, b9, b10⟩ := b1
  have I6 := I0.call J5 (tm_sub (by decide)) (Or.inl rfl)
  have t11 := J5.up h_o0
  have := mz_hi v8
  refine mv_if_neZ (tgt := 14) (a := v8.toInt) d_Reader_sign_5 (by decide) rfl (fun b12 => ?_) (fun b12 => ?_)
  · refine mv_aload_n d_Reader_sign_14 rfl rfl ?_
    obtain ⟨_, b19, -⟩ := I6.1 _ _ t11
    refine mv_callV (kc' := 0) (ks' := 0) (As := []) (st9 := [.ref o0]) d_Reader_sign_15 lV_Reader_82 b19 rfl (tc_Reader_advance (d := d) (x9 := x9) (o0 := o0) t11 I6.start) rfl (Nat.le_of_ble_eq_true rfl) (Nat.le_of_ble_eq_true rfl) (Nat.le_of_ble_eq_true rfl) (hst := rfl) (fun b13r M14 n15 b13 => ?_)
    obtain ⟨T16, J17, rfl⟩ := b13
    have I18 := I6.call J17 (tm_sub (by decide)) (Or.inl rfl)
    have t20 := J17.up t11
    refine mv_iconst (v := 1) d_Reader_sign_18 (by decide) ?_
    exact mv_iret d_Reader_sign_19 rfl (by decide) ⟨_, I18, _, rfl, by decide, by decide⟩
  · refine mv_aload_n d_Reader_sign_8 rfl rfl ?_
    refine mv_iconst (v := 1) d_Reader_sign_9 (by decide) ?_
    obtain ⟨_, b27, -⟩ := I6.1 _ _ t11
    refine mv_callV (kc' := 0) (ks' := 0) (As := [.int 1]) (st9 := [.int 1, .ref o0]) d_Reader_sign_10 lV_Reader_56 b27 rfl (tc_Reader_refuse (d := d) (x9 := x9) (o0 := o0) (x1 := 1) t11 I6.start) rfl (Nat.le_of_ble_eq_true rfl) (Nat.le_of_ble_eq_true rfl) (Nat.le_of_ble_eq_true rfl) (hst := rfl) (fun b21r M22 n23 b21 => ?_)
    obtain ⟨T24, J25, v28, rfl, b29, b30⟩ := b21
    have I26 := I6.call J25 (tm_sub (by decide)) (Or.inl rfl)
    have t31 := J25.up t11
    exact mv_iret d_Reader_sign_13 rfl (mz_nb (by omega) (by omega)) ⟨_, I26, _, rfl, by omega, by omega⟩
abbrev kY_Reader_sortOf : mj_Y := (⟨"TrustDesk$Reader", "sortOf", "(I)I"⟩, prog_10_method_39_code, 3, (Option.some Jvm.ClassFile.FieldType.int))
theorem d_Reader_sortOf_0 : decode kY_Reader_sortOf.2.1 0 = .ok (.aload_n 0, 1) := by decide +kernel
theorem d_Reader_sortOf_1 : decode kY_Reader_sortOf.2.1 1 = .ok (.iload_n 1, 1) := by decide +kernel
theorem d_Reader_sortOf_2 : decode kY_Reader_sortOf.2.1 2 = .ok (.invokevirtual 261, 3) := by decide +kernel
theorem d_Reader_sortOf_5 : decode kY_Reader_sortOf.2.1 5 = .ok (.istore_n 2, 1) := by decide +kernel
theorem d_Reader_sortOf_6 : decode kY_Reader_sortOf.2.1 6 = .ok (.iload_n 2, 1) := by decide +kernel
theorem d_Reader_sortOf_7 : decode kY_Reader_sortOf.2.1 7 = .ok (.bipush 32, 2) := by decide +kernel
theorem d_Reader_sortOf_9 : decode kY_Reader_sortOf.2.1 9 = .ok (.if_icmp .eq 9, 3) := by decide +kernel
theorem d_Reader_sortOf_18 : decode kY_Reader_sortOf.2.1 18 = .ok (.iconst 4, 1) := by decide +kernel
theorem d_Reader_sortOf_19 : decode kY_Reader_sortOf.2.1 19 = .ok (.ireturn, 1) := by decide +kernel
theorem d_Reader_sortOf_12 : decode kY_Reader_sortOf.2.1 12 = .ok (.iload_n 2, 1) := by decide +kernel
theorem d_Reader_sortOf_13 : decode kY_Reader_sortOf.2.1 13 = .ok (.bipush 10, 2) := by decide +kernel
theorem d_Reader_sortOf_15 : decode kY_Reader_sortOf.2.1 15 = .ok (.if_icmp .ne 5, 3) := by decide +kernel
theorem d_Reader_sortOf_20 : decode kY_Reader_sortOf.2.1 20 = .ok (.iload_n 2, 1) := by decide +kernel
theorem d_Reader_sortOf_21 : decode kY_Reader_sortOf.2.1 21 = .ok (.bipush 97, 2) := by decide +kernel
theorem d_Reader_sortOf_23 : decode kY_Reader_sortOf.2.1 23 = .ok (.if_icmp .lt 11, 3) := by decide +kernel
theorem d_Reader_sortOf_34 : decode kY_Reader_sortOf.2.1 34 = .ok (.iload_n 2, 1) := by decide +kernel
theorem d_Reader_sortOf_35 : decode kY_Reader_sortOf.2.1 35 = .ok (.bipush 48, 2) := by decide +kernel
theorem d_Reader_sortOf_37 : decode kY_Reader_sortOf.2.1 37 = .ok (.if_icmp .lt 13, 3) := by decide +kernel
theorem d_Reader_sortOf_50 : decode kY_Reader_sortOf.2.1 50 = .ok (.iconst 3, 1) := by decide +kernel
theorem d_Reader_sortOf_51 : decode kY_Reader_sortOf.2.1 51 = .ok (.ireturn, 1) := by decide +kernel
theorem d_Reader_sortOf_40 : decode kY_Reader_sortOf.2.1 40 = .ok (.iload_n 2, 1) := by decide +kernel
theorem d_Reader_sortOf_41 : decode kY_Reader_sortOf.2.1 41 = .ok (.bipush 57, 2) := by decide +kernel
theorem d_Reader_sortOf_43 : decode kY_Reader_sortOf.2.1 43 = .ok (.if_icmp .gt 7, 3) := by decide +kernel
theorem d_Reader_sortOf_46 : decode kY_Reader_sortOf.2.1 46 = .ok (.iconst 2, 1) := by decide +kernel
theorem d_Reader_sortOf_47 : decode kY_Reader_sortOf.2.1 47 = .ok (.goto 4, 3) := by decide +kernel
theorem d_Reader_sortOf_26 : decode kY_Reader_sortOf.2.1 26 = .ok (.iload_n 2, 1) := by decide +kernel
theorem d_Reader_sortOf_27 : decode kY_Reader_sortOf.2.1 27 = .ok (.bipush 122, 2) := by decide +kernel
theorem d_Reader_sortOf_29 : decode kY_Reader_sortOf.2.1 29 = .ok (.if_icmp .gt 5, 3) := by decide +kernel
theorem d_Reader_sortOf_32 : decode kY_Reader_sortOf.2.1 32 = .ok (.iconst 1, 1) := by decide +kernel
theorem d_Reader_sortOf_33 : decode kY_Reader_sortOf.2.1 33 = .ok (.ireturn, 1) := by decide +kernel
def w_Reader_sortOf : List Nat := []
theorem tc_Reader_sortOf {g : mj_G} {l : Launch} {d : Nat} {T0 : tm_H} {M0 : mj_M} {n0 x9 : Nat} {o0 : Nat} {x1 : Int32} (h_o0 : T0 o0 = some (0, 9, 0)) (I0 : tm_I tm_FT (tm_in w_Reader_sortOf) x9 T0 M0 n0 T0 M0 n0) : mj_Met g l kY_Reader_sortOf (d + 1) [.ref o0, .int x1] M0 n0 0 0 (tm_Q tm_FT (tm_in w_Reader_sortOf) x9 T0 M0 n0 (fun r _ _ => ∃ v : Int32, r = some (.int v))) := by
  refine mj_enter (by decide) (Nat.le_of_ble_eq_true rfl) ?_
  refine mv_aload_n d_Reader_sortOf_0 rfl rfl ?_
  refine mv_iload_n d_Reader_sortOf_1 rfl rfl ?_
  obtain ⟨_, b7, -⟩ := I0.1 _ _ h_o0
  refine mv_callV (kc' := 0) (ks' := 0) (As := [.int x1]) (st9 := [.int x1, .ref o0]) d_Reader_sortOf_2 lV_Reader_261 b7 rfl (tc_Reader_byteAt (d := d) (x9 := x9) (o0 := o0) (x1 := x1) h_o0 I0.start) rfl (Nat.le_of_ble_eq_true rfl) (Nat.le_of_ble_eq_true rfl) (Nat.le_of_ble_eq_true rfl) (hst := rfl) (fun b1r M2 n3 b1 => ?_)
  obtain ⟨T4, J5, v8, rfl⟩ := b1
  have I6 := I0.call J5 (tm_sub (by decide)) (Or.inl rfl)
  have t9 := J5.up h_o0
  refine mv_istore_n (lv' := [(2, .int v8), (0, .ref o0), (1, .int x1)]) d_Reader_sortOf_5 rfl (by decide) rfl ?_
  refine mv_iload_n d_Reader_sortOf_6 rfl rfl ?_
  refine mv_bipush (v := 32) d_Reader_sortOf_7 (by decide) ?_
  have := mz_hi v8
  refine mv_icmp_eqZ (tgt := 18) (a := v8.toInt) (b := 32) d_Reader_sortOf_9 (by decide) rfl (by decide) (fun b10 => ?_) (fun b10 => ?_)
  · refine mv_iconst (v := 4) d_Reader_sortOf_18 (by decide) ?_
    exact mv_iret d_Reader_sortOf_19 rfl (by first | rfl | decide) ⟨_, I6, _, rfl⟩
  · refine mv_iload_n d_Reader_sortOf_12 rfl rfl ?_
    refine mv_bipush (v := 10) d_Reader_sortOf_13 (by decide) ?_
    have := mz_hi v8
    refine mv_icmp_neZ (tgt := 20) (a := v8.toInt) (b := 10) d_Reader_sortOf_15 (by decide) rfl (by decide) (fun b11 => ?_) (fun b11 => ?_)
    · refine mv_iload_n d_Reader_sortOf_20 rfl rfl ?_
      refine mv_bipush (v := 97) d_Reader_sortOf_21 (by decide) ?_
      have := mz_hi v8
      refine mv_icmp_ltZ (tgt := 34) (a := v8.toInt) (b := 97) d_Reader_sortOf_23 (by decide) rfl (by decide) (fun b12 => ?_) (fun b12 => ?_)
      · refine mv_iload_n d_Reader_sortOf_34 rfl rfl ?_
        refine mv_bipush (v := 48) d_Reader_sortOf_35 (by decide) ?_
        have := mz_hi v8
        refine mv_icmp_ltZ (tgt := 50) (a := v8.toInt) (b := 48) d_Reader_sortOf_37 (by decide) rfl (by decide) (fun b13 => ?_) (fun b13 => ?_)
        · refine mv_iconst (v := 3) d_Reader_sortOf_50 (by decide) ?_
          exact mv_iret d_Reader_sortOf_51 rfl (by first | rfl | decide) ⟨_, I6, _, rfl⟩
        · refine mv_iload_n d_Reader_sortOf_40 rfl rfl ?_
          refine mv_bipush (v := 57) d_Reader_sortOf_41 (by decide) ?_
          have := mz_hi v8
          refine mv_icmp_gtZ (tgt := 50) (a := v8.toInt) (b := 57) d_Reader_sortOf_43 (by decide) rfl (by decide) (fun b14 => ?_) (fun b14 => ?_)
          · refine mv_iconst (v := 3) d_Reader_sortOf_50 (by decide) ?_
            exact mv_iret d_Reader_sortOf_51 rfl (by first | rfl | decide) ⟨_, I6, _, rfl⟩
          · refine mv_iconst (v := 2) d_Reader_sortOf_46 (by decide) ?_
            refine mv_goto (tgt := 51) d_Reader_sortOf_47 (by decide) ?_
            exact mv_iret d_Reader_sortOf_51 rfl (by first | rfl | decide) ⟨_, I6, _, rfl⟩
      · refine mv_iload_n d_Reader_sortOf_26 rfl rfl ?_
        refine mv_bipush (v := 122) d_Reader_sortOf_27 (by decide) ?_
        have := mz_hi v8
        refine mv_icmp_gtZ (tgt := 34) (a := v8.toInt) (b := 122) d_Reader_sortOf_29 (by decide) rfl (by decide) (fun b15 => ?_) (fun b15 => ?_)
        · refine mv_iload_n d_Reader_sortOf_34 rfl rfl ?_
          refine mv_bipush (v := 48) d_Reader_sortOf_35 (by decide) ?_
          have := mz_hi v8
          refine mv_icmp_ltZ (tgt := 50) (a := v8.toInt) (b := 48) d_Reader_sortOf_37 (by decide) rfl (by decide) (fun b16 => absurd b16 (by omega)) (fun b16 => ?_)
          refine mv_iload_n d_Reader_sortOf_40 rfl rfl ?_
          refine mv_bipush (v := 57) d_Reader_sortOf_41 (by decide) ?_
          have := mz_hi v8
          refine mv_icmp_gtZ (tgt := 50) (a := v8.toInt) (b := 57) d_Reader_sortOf_43 (by decide) rfl (by decide) (fun b17 => ?_) (fun b17 => absurd b17 (by omega))
          refine mv_iconst (v := 3) d_Reader_sortOf_50 (by decide) ?_
          exact mv_iret d_Reader_sortOf_51 rfl (by first | rfl | decide) ⟨_, I6, _, rfl⟩
        · refine mv_iconst (v := 1) d_Reader_sortOf_32 (by decide) ?_
          exact mv_iret d_Reader_sortOf_33 rfl (by first | rfl | decide) ⟨_, I6, _, rfl⟩
    · refine mv_iconst (v := 4) d_Reader_sortOf_18 (by decide) ?_
      exact mv_iret d_Reader_sortOf_19 rfl (by first | rfl | decide) ⟨_, I6, _, rfl⟩
abbrev kY_Reader_trustClause : mj_Y := (⟨"TrustDesk$Reader", "trustClause", "(LTrustDesk$Fund;)Z"⟩, prog_10_method_12_code, 3, (Option.some Jvm.ClassFile.FieldType.boolean))
theorem d_Reader_trustClause_0 : decode kY_Reader_trustClause.2.1 0 = .ok (.aload_n 0, 1) := by decide +kernel
theorem d_Reader_trustClause_1 : decode kY_Reader_trustClause.2.1 1 = .ok (.invokevirtual 82, 3) := by decide +kernel
theorem d_Reader_trustClause_4 : decode kY_Reader_trustClause.2.1 4 = .ok (.aload_n 0, 1) := by decide +kernel
theorem d_Reader_trustClause_5 : decode kY_Reader_trustClause.2.1 5 = .ok (.iconst 1, 1) := by decide +kernel
theorem d_Reader_trustClause_6 : decode kY_Reader_trustClause.2.1 6 = .ok (.bipush 7, 2) := by decide +kernel
theorem d_Reader_trustClause_8 : decode kY_Reader_trustClause.2.1 8 = .ok (.invokevirtual 107, 3) := by decide +kernel
theorem d_Reader_trustClause_11 : decode kY_Reader_trustClause.2.1 11 = .ok (.ifCond .ne 5, 3) := by decide +kernel
theorem d_Reader_trustClause_16 : decode kY_Reader_trustClause.2.1 16 = .ok (.aload_n 0, 1) := by decide +kernel
theorem d_Reader_trustClause_17 : decode kY_Reader_trustClause.2.1 17 = .ok (.getfield 111, 3) := by decide +kernel
theorem d_Reader_trustClause_20 : decode kY_Reader_trustClause.2.1 20 = .ok (.istore_n 2, 1) := by decide +kernel
theorem d_Reader_trustClause_21 : decode kY_Reader_trustClause.2.1 21 = .ok (.aload_n 0, 1) := by decide +kernel
theorem d_Reader_trustClause_22 : decode kY_Reader_trustClause.2.1 22 = .ok (.iconst 1, 1) := by decide +kernel
theorem d_Reader_trustClause_23 : decode kY_Reader_trustClause.2.1 23 = .ok (.iload_n 2, 1) := by decide +kernel
theorem d_Reader_trustClause_24 : decode kY_Reader_trustClause.2.1 24 = .ok (.invokevirtual 107, 3) := by decide +kernel
theorem d_Reader_trustClause_27 : decode kY_Reader_trustClause.2.1 27 = .ok (.ifCond .ne 5, 3) := by decide +kernel
theorem d_Reader_trustClause_32 : decode kY_Reader_trustClause.2.1 32 = .ok (.aload_n 1, 1) := by decide +kernel
theorem d_Reader_trustClause_33 : decode kY_Reader_trustClause.2.1 33 = .ok (.iload_n 2, 1) := by decide +kernel
theorem d_Reader_trustClause_34 : decode kY_Reader_trustClause.2.1 34 = .ok (.putfield 166, 3) := by decide +kernel
theorem p_Reader_166_6 : mj_fp "TrustDesk$Reader" 166 6 5 (kt_Fund 5) false := ⟨kR_Fund, kF_Fund, 15, "TrustDesk$Fund", kt_Fund, rfl, kg_6, by decide, (mj_in1 (List.mem_of_getElem? (i := 677) (by decide +kernel)) rfl), Or.inl rfl, kto_Fund, kn_Fund, rfl, rfl, fun h => by cases h⟩
theorem d_Reader_trustClause_37 : decode kY_Reader_trustClause.2.1 37 = .ok (.aload_n 1, 1) := by decide +kernel
theorem d_Reader_trustClause_38 : decode kY_Reader_trustClause.2.1 38 = .ok (.aload_n 0, 1) := by decide +kernel
theorem d_Reader_trustClause_39 : decode kY_Reader_trustClause.2.1 39 = .ok (.getfield 111, 3) := by decide +kernel
theorem d_Reader_trustClause_42 : decode kY_Reader_trustClause.2.1 42 = .ok (.putfield 169, 3) := by decide +kernel
theorem p_Reader_169_6 : mj_fp "TrustDesk$Reader" 169 6 6 (kt_Fund 6) false := ⟨kR_Fund, kF_Fund, 15, "TrustDesk$Fund", kt_Fund, rfl, kg_6, by decide, (mj_in1 (List.mem_of_getElem? (i := 680) (by decide +kernel)) rfl), Or.inl rfl, kto_Fund, kn_Fund, rfl, rfl, fun h => by cases h⟩
theorem d_Reader_trustClause_45 : decode kY_Reader_trustClause.2.1 45 = .ok (.iconst 1, 1) := by decide +kernel
theorem d_Reader_trustClause_46 : decode kY_Reader_trustClause.2.1 46 = .ok (.ireturn, 1) := by decide +kernel
theorem d_Reader_trustClause_30 : decode kY_Reader_trustClause.2.1 30 = .ok (.iconst 0, 1) := by decide +kernel
theorem d_Reader_trustClause_31 : decode kY_Reader_trustClause.2.1 31 = .ok (.ireturn, 1) := by decide +kernel
theorem d_Reader_trustClause_14 : decode kY_Reader_trustClause.2.1 14 = .ok (.iconst 0, 1) := by decide +kernel
theorem d_Reader_trustClause_15 : decode kY_Reader_trustClause.2.1 15 = .ok (.ireturn, 1) := by decide +kernel
def w_Reader_trustClause : List Nat := [605, 606, 901, 902, 909, 910, 911, 912, 913, 914]
theorem tc_Reader_trustClause {g : mj_G} {l : Launch} {d : Nat} {T0 : tm_H} {M0 : mj_M} {n0 x9 : Nat} {o0 : Nat} {o1 : Nat} (h_o0 : T0 o0 = some (0, 9, 0)) (h_o1 : T0 o1 = some (0, 6, 0)) (I0 : tm_I tm_FT (tm_in w_Reader_trustClause) x9 T0 M0 n0 T0 M0 n0) : mj_Met g l kY_Reader_trustClause (d + 2) [.ref o0, .ref o1] M0 n0 0 0 (tm_Q tm_FT (tm_in w_Reader_trustClause) x9 T0 M0 n0 (fun r _ _ => ∃ v : Int32, r = some (.int v) ∧ 0 ≤ v.toInt ∧ v.toInt ≤ 1)) := by
  refine mj_enter (by decide) (Nat.le_of_ble_eq_true rfl) ?_
  refine mv_aload_n d_Reader_trustClause_0 rfl rfl ?_
  obtain ⟨_, b7, -⟩ := I0.1 _ _ h_o0
  refine mv_callV (kc' := 0) (ks' := 0) (As := []) (st9 := [.ref o0]) d_Reader_trustClause_1 lV_Reader_82 b7 rfl (tc_Reader_advance (d := (d + 1)) (x9 := x9) (o0 := o0) h_o0 I0.start) rfl (Nat.le_of_ble_eq_true rfl) (Nat.le_of_ble_eq_true rfl) (Nat.le_of_ble_eq_true rfl) (hst := rfl) (fun b1r M2 n3 b1 => ?_)
  obtain ⟨T4, J5, rfl⟩ := b1
  have I6 := I0.call J5 (tm_sub (by decide)) (Or.inl rfl)
  have t8 := J5.up h_o0
  have t9 := J5.up h_o1
  refine mv_aload_n d_Reader_trustClause_4 rfl rfl ?_
  refine mv_iconst (v := 1) d_Reader_trustClause_5 (by decide) ?_
  refine mv_bipush (v := 7) d_Reader_trustClause_6 (by decide) ?_
  obtain ⟨_, b16, -⟩ := I6.1 _ _ t8
  refine mv_callV (kc' := 0) (ks' := 0) (As := [.int 1, .int 7]) (st9 := [.int 7, .int 1, .ref o0]) d_Reader_trustClause_8 lV_Reader_107 b16 rfl (tc_Reader_numeral (d := d) (x9 := x9) (o0 := o0) (x1 := 1) (x2 := 7) t8 I6.start) rfl (Nat.le_of_ble_eq_true rfl) (Nat.le_of_ble_eq_true rfl) (Nat.le_of_ble_eq_true rfl) (hst := rfl) (fun b10r M11 n12 b10 => ?_)
  obtain ⟨T13, J14, v17, rfl, b18, b19⟩ := b10
  have I15 := I6.call J14 (tm_sub (by decide)) (Or.inl rfl)
  have t20 := J14.up t8
  have t21 := J14.up t9
  have := mz_hi v17
  refine mv_if_neZ (tgt := 16) (a := v17.toInt) d_Reader_trustClause_11 (by decide) rfl (fun b22 => ?_) (fun b22 => ?_)
  · refine mv_aload_n d_Reader_trustClause_16 rfl rfl ?_
    obtain ⟨v24, q23⟩ := tm_atI I15 t20 (k := 14) rfl
    refine tr_getK q23 d_Reader_trustClause_17 f_Reader_111_9 ?_
    refine mv_istore_n (lv' := [(2, .int v24), (0, .ref o0), (1, .ref o1)]) d_Reader_trustClause_20 rfl (by decide) rfl ?_
    refine mv_aload_n d_Reader_trustClause_21 rfl rfl ?_
    refine mv_iconst (v := 1) d_Reader_trustClause_22 (by decide) ?_
    refine mv_iload_n d_Reader_trustClause_23 rfl rfl ?_
    obtain ⟨_, b31, -⟩ := I15.1 _ _ t20
    refine mv_callV (kc' := 0) (ks' := 0) (As := [.int 1, .int v24]) (st9 := [.int v24, .int 1, .ref o0]) d_Reader_trustClause_24 lV_Reader_107 b31 rfl (tc_Reader_numeral (d := d) (x9 := x9) (o0 := o0) (x1 := 1) (x2 := v24) t20 I15.start) rfl (Nat.le_of_ble_eq_true rfl) (Nat.le_of_ble_eq_true rfl) (Nat.le_of_ble_eq_true rfl) (hst := rfl) (fun b25r M26 n27 b25 => ?_)
    obtain ⟨T28, J29, v32, rfl, b33, b34⟩ := b25
    have I30 := I15.call J29 (tm_sub (by decide)) (Or.inl rfl)
    have t35 := J29.up t20
    have t36 := J29.up t21
    have := mz_hi v32
    refine mv_if_neZ (tgt := 32) (a := v32.toInt) d_Reader_trustClause_27 (by decide) rfl (fun b37 => ?_) (fun b37 => ?_)
    · refine mv_aload_n d_Reader_trustClause_32 rfl rfl ?_
      refine mv_iload_n d_Reader_trustClause_33 rfl rfl ?_
      refine tr_putK tm_okF I30 t36 (k := 5) rfl ⟨_, rfl⟩ (Or.inl (by decide)) d_Reader_trustClause_34 p_Reader_166_6 rfl rfl (fun M38 I39 q40 K41 => ?_)
      refine mv_aload_n d_Reader_trustClause_37 rfl rfl ?_
      refine mv_aload_n d_Reader_trustClause_38 rfl rfl ?_
      obtain ⟨v43, q42⟩ := tm_atI I39 t35 (k := 14) rfl
      refine tr_getK q42 d_Reader_trustClause_39 f_Reader_111_9 ?_
      refine tr_putK tm_okF I39 t36 (k := 6) rfl ⟨_, rfl⟩ (Or.inl (by decide)) d_Reader_trustClause_42 p_Reader_169_6 rfl rfl (fun M44 I45 q46 K47 => ?_)
      refine mv_iconst (v := 1) d_Reader_trustClause_45 (by decide) ?_
      exact mv_iret d_Reader_trustClause_46 rfl (by decide) ⟨_, I45, _, rfl, by decide, by decide⟩
    · refine mv_iconst (v := 0) d_Reader_trustClause_30 (by decide) ?_
      exact mv_iret d_Reader_trustClause_31 rfl (by decide) ⟨_, I30, _, rfl, by decide, by decide⟩
  · refine mv_iconst (v := 0) d_Reader_trustClause_14 (by decide) ?_
    exact mv_iret d_Reader_trustClause_15 rfl (by decide) ⟨_, I15, _, rfl, by decide, by decide⟩
abbrev kY_Reader_valueAmong : mj_Y := (⟨"TrustDesk$Reader", "valueAmong", "(II)I"⟩, prog_10_method_31_code, 3, (Option.some Jvm.ClassFile.FieldType.int))
theorem d_Reader_valueAmong_0 : decode kY_Reader_valueAmong.2.1 0 = .ok (.aload_n 0, 1) := by decide +kernel
theorem d_Reader_valueAmong_1 : decode kY_Reader_valueAmong.2.1 1 = .ok (.getfield 41, 3) := by decide +kernel
theorem d_Reader_valueAmong_4 : decode kY_Reader_valueAmong.2.1 4 = .ok (.iconst 1, 1) := by decide +kernel
theorem d_Reader_valueAmong_5 : decode kY_Reader_valueAmong.2.1 5 = .ok (.if_icmp .ne 30, 3) := by decide +kernel
theorem d_Reader_valueAmong_35 : decode kY_Reader_valueAmong.2.1 35 = .ok (.iconst (-1), 1) := by decide +kernel
theorem d_Reader_valueAmong_36 : decode kY_Reader_valueAmong.2.1 36 = .ok (.ireturn, 1) := by decide +kernel
theorem d_Reader_valueAmong_8 : decode kY_Reader_valueAmong.2.1 8 = .ok (.aload_n 0, 1) := by decide +kernel
theorem d_Reader_valueAmong_9 : decode kY_Reader_valueAmong.2.1 9 = .ok (.getfield 241, 3) := by decide +kernel
theorem d_Reader_valueAmong_12 : decode kY_Reader_valueAmong.2.1 12 = .ok (.iload_n 1, 1) := by decide +kernel
theorem d_Reader_valueAmong_13 : decode kY_Reader_valueAmong.2.1 13 = .ok (.if_icmp .lt 22, 3) := by decide +kernel
theorem d_Reader_valueAmong_16 : decode kY_Reader_valueAmong.2.1 16 = .ok (.aload_n 0, 1) := by decide +kernel
theorem d_Reader_valueAmong_17 : decode kY_Reader_valueAmong.2.1 17 = .ok (.getfield 241, 3) := by decide +kernel
theorem d_Reader_valueAmong_20 : decode kY_Reader_valueAmong.2.1 20 = .ok (.iload_n 1, 1) := by decide +kernel
theorem d_Reader_valueAmong_21 : decode kY_Reader_valueAmong.2.1 21 = .ok (.iload_n 2, 1) := by decide +kernel
theorem d_Reader_valueAmong_22 : decode kY_Reader_valueAmong.2.1 22 = .ok (.iadd, 1) := by decide +kernel
theorem d_Reader_valueAmong_23 : decode kY_Reader_valueAmong.2.1 23 = .ok (.if_icmp .ge 12, 3) := by decide +kernel
theorem d_Reader_valueAmong_26 : decode kY_Reader_valueAmong.2.1 26 = .ok (.aload_n 0, 1) := by decide +kernel
theorem d_Reader_valueAmong_27 : decode kY_Reader_valueAmong.2.1 27 = .ok (.getfield 241, 3) := by decide +kernel
theorem d_Reader_valueAmong_30 : decode kY_Reader_valueAmong.2.1 30 = .ok (.iload_n 1, 1) := by decide +kernel
theorem d_Reader_valueAmong_31 : decode kY_Reader_valueAmong.2.1 31 = .ok (.isub, 1) := by decide +kernel
theorem d_Reader_valueAmong_32 : decode kY_Reader_valueAmong.2.1 32 = .ok (.goto 4, 3) := by decide +kernel
def w_Reader_valueAmong : List Nat := []
theorem tc_Reader_valueAmong {g : mj_G} {l : Launch} {d : Nat} {T0 : tm_H} {M0 : mj_M} {n0 x9 : Nat} {o0 : Nat} {x1 : Int32} {x2 : Int32} (h_o0 : T0 o0 = some (0, 9, 0)) (I0 : tm_I tm_FT (tm_in w_Reader_valueAmong) x9 T0 M0 n0 T0 M0 n0) : mj_Met g l kY_Reader_valueAmong d [.ref o0, .int x1, .int x2] M0 n0 0 0 (tm_Q tm_FT (tm_in w_Reader_valueAmong) x9 T0 M0 n0 (fun r _ _ => ∃ v : Int32, r = some (.int v))) := by
  refine mj_enter (by decide) (Nat.le_of_ble_eq_true rfl) ?_
  refine mv_aload_n d_Reader_valueAmong_0 rfl rfl ?_
  obtain ⟨v2, q1⟩ := tm_atI I0 h_o0 (k := 10) rfl
  refine tr_getK q1 d_Reader_valueAmong_1 f_Reader_41_9 ?_
  refine mv_iconst (v := 1) d_Reader_valueAmong_4 (by decide) ?_
  have := mz_hi v2
  refine mv_icmp_neZ (tgt := 35) (a := v2.toInt) (b := 1) d_Reader_valueAmong_5 (by decide) rfl (by decide) (fun b3 => ?_) (fun b3 => ?_)
  · refine mv_iconst (v := (-1)) d_Reader_valueAmong_35 (by decide) ?_
    exact mv_iret d_Reader_valueAmong_36 rfl (by first | rfl | decide) ⟨_, I0, _, rfl⟩
  · refine mv_aload_n d_Reader_valueAmong_8 rfl rfl ?_
    obtain ⟨v5, q4⟩ := tm_atI I0 h_o0 (k := 13) rfl
    refine tr_getK q4 d_Reader_valueAmong_9 f_Reader_241_9 ?_
    refine mv_iload_n d_Reader_valueAmong_12 rfl rfl ?_
    have := mz_hi v5
    have := mz_hi x1
    refine mv_icmp_ltZ (tgt := 35) (a := v5.toInt) (b := x1.toInt) d_Reader_valueAmong_13 (by decide) rfl rfl (fun b6 => ?_) (fun b6 => ?_)
    · refine mv_iconst (v := (-1)) d_Reader_valueAmong_35 (by decide) ?_
      exact mv_iret d_Reader_valueAmong_36 rfl (by first | rfl | decide) ⟨_, I0, _, rfl⟩
    · refine mv_aload_n d_Reader_valueAmong_16 rfl rfl ?_
      refine tr_getK (k := 13) q4 d_Reader_valueAmong_17 f_Reader_241_9 ?_
      refine mv_iload_n d_Reader_valueAmong_20 rfl rfl ?_
      refine mv_iload_n d_Reader_valueAmong_21 rfl rfl ?_
      refine mv_iadd d_Reader_valueAmong_22 ?_
      have := mz_hi v5
      have := mz_hi (x1 + x2)
      refine mv_icmp_geZ (tgt := 35) (a := v5.toInt) (b := (x1 + x2).toInt) d_Reader_valueAmong_23 (by decide) rfl rfl (fun b7 => ?_) (fun b7 => ?_)
      · refine mv_iconst (v := (-1)) d_Reader_valueAmong_35 (by decide) ?_
        exact mv_iret d_Reader_valueAmong_36 rfl (by first | rfl | decide) ⟨_, I0, _, rfl⟩
      · refine mv_aload_n d_Reader_valueAmong_26 rfl rfl ?_
        refine tr_getK (k := 13) q4 d_Reader_valueAmong_27 f_Reader_241_9 ?_
        refine mv_iload_n d_Reader_valueAmong_30 rfl rfl ?_
        refine mv_isub d_Reader_valueAmong_31 ?_
        refine mv_goto (tgt := 36) d_Reader_valueAmong_32 (by decide) ?_
        exact mv_iret d_Reader_valueAmong_36 rfl (by first | rfl | decide) ⟨_, I0, _, rfl⟩
abbrev kY_Reader_word : mj_Y := (⟨"TrustDesk$Reader", "word", "(I)Z"⟩, prog_10_method_27_code, 2, (Option.some Jvm.ClassFile.FieldType.boolean))
theorem d_Reader_word_0 : decode kY_Reader_word.2.1 0 = .ok (.aload_n 0, 1) := by decide +kernel
theorem d_Reader_word_1 : decode kY_Reader_word.2.1 1 = .ok (.iload_n 1, 1) := by decide +kernel
theorem d_Reader_word_2 : decode kY_Reader_word.2.1 2 = .ok (.invokevirtual 52, 3) := by decide +kernel
theorem lV_Reader_52 : mj_lV "TrustDesk$Reader" 52 kY_Reader_isWord 1 := ⟨⟨(mj_in1 (List.mem_of_getElem? (i := 459) (by decide +kernel)) rfl), (mj_in1 (List.mem_of_getElem? (i := 3) (by decide +kernel)) rfl), (mj_in1 (List.mem_of_getElem? (i := 462) (by decide +kernel)) rfl), by decide, rfl, by decide⟩, (mj_in1 (List.mem_of_getElem? (i := 461) (by decide +kernel)) rfl), (mj_in (List.mem_append_left _ (List.mem_of_getElem? (i := 13) (by decide +kernel))) rfl)⟩
theorem d_Reader_word_5 : decode kY_Reader_word.2.1 5 = .ok (.ifCond .ne 9, 3) := by decide +kernel
theorem d_Reader_word_14 : decode kY_Reader_word.2.1 14 = .ok (.aload_n 0, 1) := by decide +kernel
theorem d_Reader_word_15 : decode kY_Reader_word.2.1 15 = .ok (.invokevirtual 82, 3) := by decide +kernel
theorem d_Reader_word_18 : decode kY_Reader_word.2.1 18 = .ok (.iconst 1, 1) := by decide +kernel
theorem d_Reader_word_19 : decode kY_Reader_word.2.1 19 = .ok (.ireturn, 1) := by decide +kernel
theorem d_Reader_word_8 : decode kY_Reader_word.2.1 8 = .ok (.aload_n 0, 1) := by decide +kernel
theorem d_Reader_word_9 : decode kY_Reader_word.2.1 9 = .ok (.iconst 1, 1) := by decide +kernel
theorem d_Reader_word_10 : decode kY_Reader_word.2.1 10 = .ok (.invokevirtual 56, 3) := by decide +kernel
theorem d_Reader_word_13 : decode kY_Reader_word.2.1 13 = .ok (.ireturn, 1) := by decide +kernel
def w_Reader_word : List Nat := [901, 902, 909, 910, 911, 912, 913]
theorem tc_Reader_word {g : mj_G} {l : Launch} {d : Nat} {T0 : tm_H} {M0 : mj_M} {n0 x9 : Nat} {o0 : Nat} {x1 : Int32} (h_o0 : T0 o0 = some (0, 9, 0)) (I0 : tm_I tm_FT (tm_in w_Reader_word) x9 T0 M0 n0 T0 M0 n0) : mj_Met g l kY_Reader_word (d + 1) [.ref o0, .int x1] M0 n0 0 0 (tm_Q tm_FT (tm_in w_Reader_word) x9 T0 M0 n0 (fun r _ _ => ∃ v : Int32, r = some (.int v) ∧ 0 ≤ v.toInt ∧ v.toInt ≤ 1)) := by
  refine mj_enter (by decide) (Nat.le_of_ble_eq_true rfl) ?_
  refine mv_aload_n d_Reader_word_0 rfl rfl ?_
  refine mv_iload_n d_Reader_word_1 rfl rfl ?_
  obtain ⟨_, b7, -⟩ := I0.1 _ _ h_o0
  refine mv_callV (kc' := 0) (ks' := 0) (As := [.int x1]) (st9 := [.int x1, .ref o0]) d_Reader_word_2 lV_Reader_52 b7 rfl (tc_Reader_isWord (d := d) (x9 := x9) (o0 := o0) (x1 := x1) h_o0 I0.start) rfl (Nat.le_of_ble_eq_true rfl) (Nat.le_of_ble_eq_true rfl) (Nat.le_of_ble_eq_true rfl) (hst := rfl) (fun b1r M2 n3 b1 => ?_)
  obtain ⟨T4, J5, v8, rfl, b9, b10⟩ := b1
  have I6 := I0.call J5 (tm_sub (by decide)) (Or.inl rfl)
  have t11 := J5.up h_o0
  have := mz_hi v8
  refine mv_if_neZ (tgt := 14) (a := v8.toInt) d_Reader_word_5 (by decide) rfl (fun b12 => ?_) (fun b12 => ?_)
  · refine mv_aload_n d_Reader_word_14 rfl rfl ?_
    obtain ⟨_, b19, -⟩ := I6.1 _ _ t11
    refine mv_callV (kc' := 0) (ks' := 0) (As := []) (st9 := [.ref o0]) d_Reader_word_15 lV_Reader_82 b19 rfl (tc_Reader_advance (d := d) (x9 := x9) (o0 := o0) t11 I6.start) rfl (Nat.le_of_ble_eq_true rfl) (Nat.le_of_ble_eq_true rfl) (Nat.le_of_ble_eq_true rfl) (hst := rfl) (fun b13r M14 n15 b13 => ?_)
    obtain ⟨T16, J17, rfl⟩ := b13
    have I18 := I6.call J17 (tm_sub (by decide)) (Or.inl rfl)
    have t20 := J17.up t11
    refine mv_iconst (v := 1) d_Reader_word_18 (by decide) ?_
    exact mv_iret d_Reader_word_19 rfl (by decide) ⟨_, I18, _, rfl, by decide, by decide⟩
  · refine mv_aload_n d_Reader_word_8 rfl rfl ?_
    refine mv_iconst (v := 1) d_Reader_word_9 (by decide) ?_
    obtain ⟨_, b27, -⟩ := I6.1 _ _ t11
    refine mv_callV (kc' := 0) (ks' := 0) (As := [.int 1]) (st9 := [.int 1, .ref o0]) d_Reader_word_10 lV_Reader_56 b27 rfl (tc_Reader_refuse (d := d) (x9 := x9) (o0 := o0) (x1 := 1) t11 I6.start) rfl (Nat.le_of_ble_eq_true rfl) (Nat.le_of_ble_eq_true rfl) (Nat.le_of_ble_eq_true rfl) (hst := rfl) (fun b21r M22 n23 b21 => ?_)
    obtain ⟨T24, J25, v28, rfl, b29, b30⟩ := b21
    have I26 := I6.call J25 (tm_sub (by decide)) (Or.inl rfl)
    have t31 := J25.up t11
    exact mv_iret d_Reader_word_13 rfl (mz_nb (by omega) (by omega)) ⟨_, I26, _, rfl, by omega, by omega⟩
abbrev kY_Reader_wordAsNumber : mj_Y := (⟨"TrustDesk$Reader", "wordAsNumber", "()J"⟩, prog_10_method_14_code, 4, (Option.some Jvm.ClassFile.FieldType.long))
theorem d_Reader_wordAsNumber_0 : decode kY_Reader_wordAsNumber.2.1 0 = .ok (.lconst 0, 1) := by decide +kernel
theorem d_Reader_wordAsNumber_1 : decode kY_Reader_wordAsNumber.2.1 1 = .ok (.lstore_n 1, 1) := by decide +kernel
theorem d_Reader_wordAsNumber_2 : decode kY_Reader_wordAsNumber.2.1 2 = .ok (.aload_n 0, 1) := by decide +kernel
theorem d_Reader_wordAsNumber_3 : decode kY_Reader_wordAsNumber.2.1 3 = .ok (.getfield 175, 3) := by decide +kernel
theorem d_Reader_wordAsNumber_6 : decode kY_Reader_wordAsNumber.2.1 6 = .ok (.istore_n 3, 1) := by decide +kernel
theorem d_Reader_wordAsNumber_7 : decode kY_Reader_wordAsNumber.2.1 7 = .ok (.iload_n 3, 1) := by decide +kernel
theorem d_Reader_wordAsNumber_8 : decode kY_Reader_wordAsNumber.2.1 8 = .ok (.ifCond .lt 44, 3) := by decide +kernel
theorem d_Reader_wordAsNumber_52 : decode kY_Reader_wordAsNumber.2.1 52 = .ok (.lload_n 1, 1) := by decide +kernel
theorem d_Reader_wordAsNumber_53 : decode kY_Reader_wordAsNumber.2.1 53 = .ok (.lreturn, 1) := by decide +kernel
theorem d_Reader_wordAsNumber_11 : decode kY_Reader_wordAsNumber.2.1 11 = .ok (.iload_n 3, 1) := by decide +kernel
theorem d_Reader_wordAsNumber_12 : decode kY_Reader_wordAsNumber.2.1 12 = .ok (.aload_n 0, 1) := by decide +kernel
theorem d_Reader_wordAsNumber_13 : decode kY_Reader_wordAsNumber.2.1 13 = .ok (.getfield 172, 3) := by decide +kernel
theorem f_Reader_172_9 : mj_fl "TrustDesk$Reader" 172 9 12 := ⟨kR_Reader, kF_Reader, 19, "TrustDesk$Reader", rfl, kg_9, by decide, (mj_in1 (List.mem_of_getElem? (i := 84) (by decide +kernel)) rfl), Or.inl rfl⟩
theorem d_Reader_wordAsNumber_16 : decode kY_Reader_wordAsNumber.2.1 16 = .ok (.if_icmp .ge 36, 3) := by decide +kernel
theorem d_Reader_wordAsNumber_19 : decode kY_Reader_wordAsNumber.2.1 19 = .ok (.iload_n 3, 1) := by decide +kernel
theorem d_Reader_wordAsNumber_20 : decode kY_Reader_wordAsNumber.2.1 20 = .ok (.sipush 400, 3) := by decide +kernel
theorem d_Reader_wordAsNumber_23 : decode kY_Reader_wordAsNumber.2.1 23 = .ok (.if_icmp .ge 29, 3) := by decide +kernel
theorem d_Reader_wordAsNumber_26 : decode kY_Reader_wordAsNumber.2.1 26 = .ok (.lload_n 1, 1) := by decide +kernel
theorem d_Reader_wordAsNumber_27 : decode kY_Reader_wordAsNumber.2.1 27 = .ok (.ldc2_w 194, 3) := by decide +kernel
theorem k_Reader_194 : Cond.constantLong "TrustDesk$Reader" 194 32 ∈ mj_T := (mj_in1 (List.mem_of_getElem? (i := 743) (by decide +kernel)) rfl)
theorem d_Reader_wordAsNumber_30 : decode kY_Reader_wordAsNumber.2.1 30 = .ok (.lmul, 1) := by decide +kernel
theorem d_Reader_wordAsNumber_31 : decode kY_Reader_wordAsNumber.2.1 31 = .ok (.aload_n 0, 1) := by decide +kernel
theorem d_Reader_wordAsNumber_32 : decode kY_Reader_wordAsNumber.2.1 32 = .ok (.getfield 15, 3) := by decide +kernel
theorem d_Reader_wordAsNumber_35 : decode kY_Reader_wordAsNumber.2.1 35 = .ok (.iload_n 3, 1) := by decide +kernel
theorem d_Reader_wordAsNumber_36 : decode kY_Reader_wordAsNumber.2.1 36 = .ok (.iaload, 1) := by decide +kernel
theorem d_Reader_wordAsNumber_37 : decode kY_Reader_wordAsNumber.2.1 37 = .ok (.i2l, 1) := by decide +kernel
theorem d_Reader_wordAsNumber_38 : decode kY_Reader_wordAsNumber.2.1 38 = .ok (.ladd, 1) := by decide +kernel
theorem d_Reader_wordAsNumber_39 : decode kY_Reader_wordAsNumber.2.1 39 = .ok (.ldc2_w 196, 3) := by decide +kernel
theorem k_Reader_196 : Cond.constantLong "TrustDesk$Reader" 196 97 ∈ mj_T := (mj_in1 (List.mem_of_getElem? (i := 744) (by decide +kernel)) rfl)
theorem d_Reader_wordAsNumber_42 : decode kY_Reader_wordAsNumber.2.1 42 = .ok (.lsub, 1) := by decide +kernel
theorem d_Reader_wordAsNumber_43 : decode kY_Reader_wordAsNumber.2.1 43 = .ok (.lconst 1, 1) := by decide +kernel
theorem d_Reader_wordAsNumber_44 : decode kY_Reader_wordAsNumber.2.1 44 = .ok (.ladd, 1) := by decide +kernel
theorem d_Reader_wordAsNumber_45 : decode kY_Reader_wordAsNumber.2.1 45 = .ok (.lstore_n 1, 1) := by decide +kernel
theorem d_Reader_wordAsNumber_46 : decode kY_Reader_wordAsNumber.2.1 46 = .ok (.iinc 3 1, 3) := by decide +kernel
theorem d_Reader_wordAsNumber_49 : decode kY_Reader_wordAsNumber.2.1 49 = .ok (.goto (-42), 3) := by decide +kernel
def w_Reader_wordAsNumber : List Nat := []
theorem tc_Reader_wordAsNumber {g : mj_G} {l : Launch} {d : Nat} {T0 : tm_H} {M0 : mj_M} {n0 x9 : Nat} {o0 : Nat} (h_o0 : T0 o0 = some (0, 9, 0)) (I0 : tm_I tm_FT (tm_in w_Reader_wordAsNumber) x9 T0 M0 n0 T0 M0 n0) : mj_Met g l kY_Reader_wordAsNumber d [.ref o0] M0 n0 0 0 (tm_Q tm_FT (tm_in w_Reader_wordAsNumber) x9 T0 M0 n0 (fun r _ _ => ∃ v : Int64, r = some (.long v))) := by
  refine mj_enter (by decide) (Nat.le_of_ble_eq_true rfl) ?_
  refine mv_lconst (v := 0) d_Reader_wordAsNumber_0 (by decide) ?_
  refine mv_lstore_n (lv' := [(1, .long 0), (0, .ref o0)]) d_Reader_wordAsNumber_1 rfl (by decide) rfl ?_
  refine mv_aload_n d_Reader_wordAsNumber_2 rfl rfl ?_
  obtain ⟨v2, q1⟩ := tm_atI I0 h_o0 (k := 11) rfl
  refine tr_getK q1 d_Reader_wordAsNumber_3 f_Reader_175_9 ?_
  refine mv_istore_n (lv' := [(3, .int v2), (1, .long 0), (0, .ref o0)]) d_Reader_wordAsNumber_6 rfl (by decide) rfl ?_
  have L7_3 : ∀ (k : Nat) (i3_3 : Int32) (l1_3 : Int64) (T_3 : tm_H) (M_3 : mj_M) (n_3 : Nat), tm_I tm_FT (tm_in w_Reader_wordAsNumber) x9 T0 M0 n0 T_3 M_3 n_3 → T_3 o0 = some (0, 9, 0) → 2147483647 - i3_3.toInt < (k : Int) → mj_V g l kY_Reader_wordAsNumber d 7 [(3, .int i3_3), (1, .long l1_3), (0, .ref o0)] [] M_3 n_3 0 0 (tm_Q tm_FT (tm_in w_Reader_wordAsNumber) x9 T0 M0 n0 (fun r _ _ => ∃ v : Int64, r = some (.long v))) := by
    intro k3
    induction k3 with
    | zero =>
      intro i3_3 l1_3 T_3 M_3 n_3 I_3 h_q0_3 hk3
      have := mz_hi i3_3
      omega
    | succ k3 ih3 =>
      intro i3_3 l1_3 T_3 M_3 n_3 I_3 h_q0_3 hk3
      refine mv_iload_n d_Reader_wordAsNumber_7 rfl rfl ?_
      have := mz_hi i3_3
      refine mv_if_ltZ (tgt := 52) (a := i3_3.toInt) d_Reader_wordAsNumber_8 (by decide) rfl (fun b4 => ?_) (fun b4 => ?_)
      · refine mv_lload_n d_Reader_wordAsNumber_52 rfl rfl ?_
        exact mv_lret d_Reader_wordAsNumber_53 rfl ⟨_, I_3, _, rfl⟩
      · refine mv_iload_n d_Reader_wordAsNumber_11 rfl rfl ?_
        refine mv_aload_n d_Reader_wordAsNumber_12 rfl rfl ?_
        obtain ⟨v6, q5⟩ := tm_atI I_3 h_q0_3 (k := 12) rfl
        refine tr_getK q5 d_Reader_wordAsNumber_13 f_Reader_172_9 ?_
        have := mz_hi i3_3
        have := mz_hi v6
        refine mv_icmp_geZ (tgt := 52) (a := i3_3.toInt) (b := v6.toInt) d_Reader_wordAsNumber_16 (by decide) rfl rfl (fun b7 => ?_) (fun b7 => ?_)
        · refine mv_lload_n d_Reader_wordAsNumber_52 rfl rfl ?_
          exact mv_lret d_Reader_wordAsNumber_53 rfl ⟨_, I_3, _, rfl⟩
        · refine mv_iload_n d_Reader_wordAsNumber_19 rfl rfl ?_
          refine mv_sipush (v := 400) d_Reader_wordAsNumber_20 (by decide) ?_
          have := mz_hi i3_3
          refine mv_icmp_geZ (tgt := 52) (a := i3_3.toInt) (b := 400) d_Reader_wordAsNumber_23 (by decide) rfl (by decide) (fun b8 => ?_) (fun b8 => ?_)
          · refine mv_lload_n d_Reader_wordAsNumber_52 rfl rfl ?_
            exact mv_lret d_Reader_wordAsNumber_53 rfl ⟨_, I_3, _, rfl⟩
          · refine mv_lload_n d_Reader_wordAsNumber_26 rfl rfl ?_
            refine mv_ldc2 d_Reader_wordAsNumber_27 k_Reader_194 ?_
            refine mv_lmul d_Reader_wordAsNumber_30 ?_
            refine mv_aload_n d_Reader_wordAsNumber_31 rfl rfl ?_
            obtain ⟨a10, q9, t_a10⟩ := tm_atR I_3 h_q0_3 (k := 3) rfl
            refine tr_getK q9 d_Reader_wordAsNumber_32 f_Reader_15_9 ?_
            refine mv_iload_n d_Reader_wordAsNumber_35 rfl rfl ?_
            refine tr_iald I_3 t_a10 (by decide) d_Reader_wordAsNumber_36 (vp_in_iff.mpr (by omega)) (fun v11 => ?_)
            refine mv_i2l (v := v11.toInt64) d_Reader_wordAsNumber_37 rfl ?_
            refine mv_ladd d_Reader_wordAsNumber_38 ?_
            refine mv_ldc2 d_Reader_wordAsNumber_39 k_Reader_196 ?_
            refine mv_lsub d_Reader_wordAsNumber_42 ?_
            refine mv_lconst (v := 1) d_Reader_wordAsNumber_43 (by decide) ?_
            refine mv_ladd d_Reader_wordAsNumber_44 ?_
            refine mv_lstore_n (lv' := [(1, .long ((((l1_3 * 32) + v11.toInt64) - 97) + 1)), (3, .int i3_3), (0, .ref o0)]) d_Reader_wordAsNumber_45 rfl (by decide) rfl ?_
            refine mv_iinc (v := (i3_3 + 1)) (lv' := [(3, .int (i3_3 + 1)), (1, .long ((((l1_3 * 32) + v11.toInt64) - 97) + 1)), (0, .ref o0)]) d_Reader_wordAsNumber_46 rfl rfl (by decide) rfl ?_
            refine mv_goto (tgt := 7) d_Reader_wordAsNumber_49 (by decide) ?_
            have b12 : (i3_3 + 1).toInt = i3_3.toInt + 1 := mz_addn 1 1 (by decide) (by have := mz_lo i3_3; omega) (by have := mz_hi i3_3; omega)
            exact ih3 (i3_3 + 1) ((((l1_3 * 32) + v11.toInt64) - 97) + 1) T_3 M_3 n_3 I_3 h_q0_3 (by omega)
  exact L7_3 4294967296 v2 0 T0 M0 n0 I0 h_o0 (by have := mz_lo v2; omega)
abbrev kY_Reckoner_bounded : mj_Y := (⟨"TrustDesk$Reckoner", "bounded", "(J)J"⟩, prog_11_method_7_code, 2, (Option.some Jvm.ClassFile.FieldType.long))
theorem d_Reckoner_bounded_0 : decode kY_Reckoner_bounded.2.1 0 = .ok (.ldc2_w 77, 3) := by decide +kernel
theorem k_Reckoner_77 : Cond.constantLong "TrustDesk$Reckoner" 77 (-1000000000) ∈ mj_T := (mj_in1 (List.mem_of_getElem? (i := 908) (by decide +kernel)) rfl)
theorem d_Reckoner_bounded_3 : decode kY_Reckoner_bounded.2.1 3 = .ok (.ldc2_w 34, 3) := by decide +kernel
theorem k_Reckoner_34 : Cond.constantLong "TrustDesk$Reckoner" 34 1000000000 ∈ mj_T := (mj_in1 (List.mem_of_getElem? (i := 887) (by decide +kernel)) rfl)
theorem d_Reckoner_bounded_6 : decode kY_Reckoner_bounded.2.1 6 = .ok (.lload_n 0, 1) := by decide +kernel
theorem d_Reckoner_bounded_7 : decode kY_Reckoner_bounded.2.1 7 = .ok (.invokestatic 36, 3) := by decide +kernel
theorem d_Reckoner_bounded_10 : decode kY_Reckoner_bounded.2.1 10 = .ok (.invokestatic 79, 3) := by decide +kernel
theorem d_Reckoner_bounded_13 : decode kY_Reckoner_bounded.2.1 13 = .ok (.lreturn, 1) := by decide +kernel
def w_Reckoner_bounded : List Nat := []
theorem tc_Reckoner_bounded {g : mj_G} {l : Launch} {d : Nat} {T0 : tm_H} {M0 : mj_M} {n0 x9 : Nat} {x1 : Int64} (I0 : tm_I tm_FT (tm_in w_Reckoner_bounded) x9 T0 M0 n0 T0 M0 n0) : mj_Met g l kY_Reckoner_bounded (d + 1) [.long x1] M0 n0 0 0 (tm_Q tm_FT (tm_in w_Reckoner_bounded) x9 T0 M0 n0 (fun r _ _ => ∃ v : Int64, r = some (.long v))) := by
  refine mj_enter (by decide) (Nat.le_of_ble_eq_true rfl) ?_
  refine mv_ldc2 d_Reckoner_bounded_0 k_Reckoner_77 ?_
  refine mv_ldc2 d_Reckoner_bounded_3 k_Reckoner_34 ?_
  refine mv_lload_n d_Reckoner_bounded_6 rfl rfl ?_
  refine mv_mmin_long (v := (if x1 < 1000000000 then x1 else 1000000000)) d_Reckoner_bounded_7 (mj_in1 (List.mem_of_getElem? (i := 888) (by decide +kernel)) rfl) (Nat.le_of_ble_eq_true rfl) rfl ?_
  refine mv_mmax_long (v := (if (if x1 < 1000000000 then x1 else 1000000000) < (-1000000000) then (-1000000000) else (if x1 < 1000000000 then x1 else 1000000000))) d_Reckoner_bounded_10 (mj_in1 (List.mem_of_getElem? (i := 909) (by decide +kernel)) rfl) (Nat.le_of_ble_eq_true rfl) rfl ?_
  exact mv_lret d_Reckoner_bounded_13 rfl ⟨_, I0, _, rfl⟩
abbrev kY_Reckoner_compared : mj_Y := (⟨"TrustDesk$Reckoner", "compared", "(Z)J"⟩, prog_11_method_6_code, 2, (Option.some Jvm.ClassFile.FieldType.long))
theorem d_Reckoner_compared_0 : decode kY_Reckoner_compared.2.1 0 = .ok (.iload_n 1, 1) := by decide +kernel
theorem d_Reckoner_compared_1 : decode kY_Reckoner_compared.2.1 1 = .ok (.ifCond .ne 19, 3) := by decide +kernel
theorem d_Reckoner_compared_20 : decode kY_Reckoner_compared.2.1 20 = .ok (.aload_n 0, 1) := by decide +kernel
theorem d_Reckoner_compared_21 : decode kY_Reckoner_compared.2.1 21 = .ok (.dup, 1) := by decide +kernel
theorem d_Reckoner_compared_22 : decode kY_Reckoner_compared.2.1 22 = .ok (.getfield 49, 3) := by decide +kernel
theorem f_Reckoner_49_10 : mj_fl "TrustDesk$Reckoner" 49 10 4 := ⟨kR_Reckoner, kF_Reckoner, 5, "TrustDesk$Reckoner", rfl, kg_10, by decide, (mj_in1 (List.mem_of_getElem? (i := 142) (by decide +kernel)) rfl), Or.inl rfl⟩
theorem d_Reckoner_compared_25 : decode kY_Reckoner_compared.2.1 25 = .ok (.iconst 1, 1) := by decide +kernel
theorem d_Reckoner_compared_26 : decode kY_Reckoner_compared.2.1 26 = .ok (.iadd, 1) := by decide +kernel
theorem d_Reckoner_compared_27 : decode kY_Reckoner_compared.2.1 27 = .ok (.putfield 49, 3) := by decide +kernel
theorem p_Reckoner_49_10 : mj_fp "TrustDesk$Reckoner" 49 10 4 (kt_Reckoner 4) false := ⟨kR_Reckoner, kF_Reckoner, 5, "TrustDesk$Reckoner", kt_Reckoner, rfl, kg_10, by decide, (mj_in1 (List.mem_of_getElem? (i := 142) (by decide +kernel)) rfl), Or.inl rfl, kto_Reckoner, kn_Reckoner, rfl, rfl, fun h => by cases h⟩
theorem d_Reckoner_compared_30 : decode kY_Reckoner_compared.2.1 30 = .ok (.iload_n 1, 1) := by decide +kernel
theorem d_Reckoner_compared_31 : decode kY_Reckoner_compared.2.1 31 = .ok (.ifCond .eq 7, 3) := by decide +kernel
theorem d_Reckoner_compared_38 : decode kY_Reckoner_compared.2.1 38 = .ok (.lconst 0, 1) := by decide +kernel
theorem d_Reckoner_compared_39 : decode kY_Reckoner_compared.2.1 39 = .ok (.lreturn, 1) := by decide +kernel
theorem d_Reckoner_compared_34 : decode kY_Reckoner_compared.2.1 34 = .ok (.lconst 1, 1) := by decide +kernel
theorem d_Reckoner_compared_35 : decode kY_Reckoner_compared.2.1 35 = .ok (.goto 4, 3) := by decide +kernel
theorem d_Reckoner_compared_4 : decode kY_Reckoner_compared.2.1 4 = .ok (.aload_n 0, 1) := by decide +kernel
theorem d_Reckoner_compared_5 : decode kY_Reckoner_compared.2.1 5 = .ok (.getfield 15, 3) := by decide +kernel
theorem f_Reckoner_15_10 : mj_fl "TrustDesk$Reckoner" 15 10 1 := ⟨kR_Reckoner, kF_Reckoner, 5, "TrustDesk$Reckoner", rfl, kg_10, by decide, (mj_in1 (List.mem_of_getElem? (i := 138) (by decide +kernel)) rfl), Or.inl rfl⟩
theorem d_Reckoner_compared_8 : decode kY_Reckoner_compared.2.1 8 = .ok (.iconst (-1), 1) := by decide +kernel
theorem d_Reckoner_compared_9 : decode kY_Reckoner_compared.2.1 9 = .ok (.if_icmp .ne 11, 3) := by decide +kernel
theorem d_Reckoner_compared_12 : decode kY_Reckoner_compared.2.1 12 = .ok (.aload_n 0, 1) := by decide +kernel
theorem d_Reckoner_compared_13 : decode kY_Reckoner_compared.2.1 13 = .ok (.aload_n 0, 1) := by decide +kernel
theorem d_Reckoner_compared_14 : decode kY_Reckoner_compared.2.1 14 = .ok (.getfield 49, 3) := by decide +kernel
theorem d_Reckoner_compared_17 : decode kY_Reckoner_compared.2.1 17 = .ok (.putfield 15, 3) := by decide +kernel
def w_Reckoner_compared : List Nat := [1001, 1004]
theorem tc_Reckoner_compared {g : mj_G} {l : Launch} {d : Nat} {T0 : tm_H} {M0 : mj_M} {n0 x9 : Nat} {o0 : Nat} {x1 : Int32} (h_o0 : T0 o0 = some (0, 10, 0)) (I0 : tm_I tm_FT (tm_in w_Reckoner_compared) x9 T0 M0 n0 T0 M0 n0) : mj_Met g l kY_Reckoner_compared d [.ref o0, .int x1] M0 n0 0 0 (tm_Q tm_FT (tm_in w_Reckoner_compared) x9 T0 M0 n0 (fun r _ _ => ∃ v : Int64, r = some (.long v))) := by
  refine mj_enter (by decide) (Nat.le_of_ble_eq_true rfl) ?_
  refine mv_iload_n d_Reckoner_compared_0 rfl rfl ?_
  have := mz_hi x1
  refine mv_if_neZ (tgt := 20) (a := x1.toInt) d_Reckoner_compared_1 (by decide) rfl (fun b1 => ?_) (fun b1 => ?_)
  · refine mv_aload_n d_Reckoner_compared_20 rfl rfl ?_
    refine mv_dup d_Reckoner_compared_21 rfl ?_
    obtain ⟨v3, q2⟩ := tm_atI I0 h_o0 (k := 4) rfl
    refine tr_getK q2 d_Reckoner_compared_22 f_Reckoner_49_10 ?_
    refine mv_iconst (v := 1) d_Reckoner_compared_25 (by decide) ?_
    refine mv_iadd d_Reckoner_compared_26 ?_
    refine tr_putK tm_okF I0 h_o0 (k := 4) rfl ⟨_, rfl⟩ (Or.inl (by decide)) d_Reckoner_compared_27 p_Reckoner_49_10 rfl rfl (fun M4 I5 q6 K7 => ?_)
    refine mv_iload_n d_Reckoner_compared_30 rfl rfl ?_
    have := mz_hi x1
    refine mv_if_eqZ (tgt := 38) (a := x1.toInt) d_Reckoner_compared_31 (by decide) rfl (fun b8 => ?_) (fun b8 => ?_)
    · refine mv_lconst (v := 0) d_Reckoner_compared_38 (by decide) ?_
      exact mv_lret d_Reckoner_compared_39 rfl ⟨_, I5, _, rfl⟩
    · refine mv_lconst (v := 1) d_Reckoner_compared_34 (by decide) ?_
      refine mv_goto (tgt := 39) d_Reckoner_compared_35 (by decide) ?_
      exact mv_lret d_Reckoner_compared_39 rfl ⟨_, I5, _, rfl⟩
  · refine mv_aload_n d_Reckoner_compared_4 rfl rfl ?_
    obtain ⟨v10, q9⟩ := tm_atI I0 h_o0 (k := 1) rfl
    refine tr_getK q9 d_Reckoner_compared_5 f_Reckoner_15_10 ?_
    refine mv_iconst (v := (-1)) d_Reckoner_compared_8 (by decide) ?_
    have := mz_hi v10
    refine mv_icmp_neZ (tgt := 20) (a := v10.toInt) (b := (-1)) d_Reckoner_compared_9 (by decide) rfl (by decide) (fun b11 => ?_) (fun b11 => ?_)
    · refine mv_aload_n d_Reckoner_compared_20 rfl rfl ?_
      refine mv_dup d_Reckoner_compared_21 rfl ?_
      obtain ⟨v13, q12⟩ := tm_atI I0 h_o0 (k := 4) rfl
      refine tr_getK q12 d_Reckoner_compared_22 f_Reckoner_49_10 ?_
      refine mv_iconst (v := 1) d_Reckoner_compared_25 (by decide) ?_
      refine mv_iadd d_Reckoner_compared_26 ?_
      refine tr_putK tm_okF I0 h_o0 (k := 4) rfl ⟨_, rfl⟩ (Or.inl (by decide)) d_Reckoner_compared_27 p_Reckoner_49_10 rfl rfl (fun M14 I15 q16 K17 => ?_)
      refine mv_iload_n d_Reckoner_compared_30 rfl rfl ?_
      have := mz_hi x1
      refine mv_if_eqZ (tgt := 38) (a := x1.toInt) d_Reckoner_compared_31 (by decide) rfl (fun b18 => ?_) (fun b18 => absurd b18 (by omega))
      refine mv_lconst (v := 0) d_Reckoner_compared_38 (by decide) ?_
      exact mv_lret d_Reckoner_compared_39 rfl ⟨_, I15, _, rfl⟩
    · refine mv_aload_n d_Reckoner_compared_12 rfl rfl ?_
      refine mv_aload_n d_Reckoner_compared_13 rfl rfl ?_
      obtain ⟨v20, q19⟩ := tm_atI I0 h_o0 (k := 4) rfl
      refine tr_getK q19 d_Reckoner_compared_14 f_Reckoner_49_10 ?_
      refine tr_putK tm_okF I0 h_o0 (k := 1) rfl ⟨_, rfl⟩ (Or.inl (by decide)) d_Reckoner_compared_17 p_Reckoner_15_10 rfl rfl (fun M21 I22 q23 K24 => ?_)
      refine mv_aload_n d_Reckoner_compared_20 rfl rfl ?_
      refine mv_dup d_Reckoner_compared_21 rfl ?_
      refine tr_getK (k := 4) (K24 _ 10 4 _ rfl q19) d_Reckoner_compared_22 f_Reckoner_49_10 ?_
      refine mv_iconst (v := 1) d_Reckoner_compared_25 (by decide) ?_
      refine mv_iadd d_Reckoner_compared_26 ?_
      refine tr_putK tm_okF I22 h_o0 (k := 4) rfl ⟨_, rfl⟩ (Or.inl (by decide)) d_Reckoner_compared_27 p_Reckoner_49_10 rfl rfl (fun M25 I26 q27 K28 => ?_)
      refine mv_iload_n d_Reckoner_compared_30 rfl rfl ?_
      have := mz_hi x1
      refine mv_if_eqZ (tgt := 38) (a := x1.toInt) d_Reckoner_compared_31 (by decide) rfl (fun b29 => ?_) (fun b29 => absurd b29 (by omega))
      refine mv_lconst (v := 0) d_Reckoner_compared_38 (by decide) ?_
      exact mv_lret d_Reckoner_compared_39 rfl ⟨_, I26, _, rfl⟩
abbrev kY_Reckoner_know : mj_Y := (⟨"TrustDesk$Reckoner", "know", "(LTrustDesk$Facts;II)V"⟩, prog_11_method_2_code, 5, (Option.none : Option Jvm.ClassFile.FieldType))
theorem d_Reckoner_know_0 : decode kY_Reckoner_know.2.1 0 = .ok (.iconst 0, 1) := by decide +kernel
theorem d_Reckoner_know_1 : decode kY_Reckoner_know.2.1 1 = .ok (.istore 4, 2) := by decide +kernel
theorem d_Reckoner_know_3 : decode kY_Reckoner_know.2.1 3 = .ok (.iload 4, 2) := by decide +kernel
theorem d_Reckoner_know_5 : decode kY_Reckoner_know.2.1 5 = .ok (.bipush 8, 2) := by decide +kernel
theorem d_Reckoner_know_7 : decode kY_Reckoner_know.2.1 7 = .ok (.if_icmp .ge 25, 3) := by decide +kernel
theorem d_Reckoner_know_32 : decode kY_Reckoner_know.2.1 32 = .ok (.return_, 1) := by decide +kernel
theorem d_Reckoner_know_10 : decode kY_Reckoner_know.2.1 10 = .ok (.aload_n 0, 1) := by decide +kernel
theorem d_Reckoner_know_11 : decode kY_Reckoner_know.2.1 11 = .ok (.getfield 9, 3) := by decide +kernel
theorem f_Reckoner_9_10 : mj_fl "TrustDesk$Reckoner" 9 10 0 := ⟨kR_Reckoner, kF_Reckoner, 5, "TrustDesk$Reckoner", rfl, kg_10, by decide, (mj_in1 (List.mem_of_getElem? (i := 136) (by decide +kernel)) rfl), Or.inl rfl⟩
theorem d_Reckoner_know_14 : decode kY_Reckoner_know.2.1 14 = .ok (.iload 4, 2) := by decide +kernel
theorem d_Reckoner_know_16 : decode kY_Reckoner_know.2.1 16 = .ok (.aload_n 1, 1) := by decide +kernel
theorem d_Reckoner_know_17 : decode kY_Reckoner_know.2.1 17 = .ok (.iload 4, 2) := by decide +kernel
theorem d_Reckoner_know_19 : decode kY_Reckoner_know.2.1 19 = .ok (.iload_n 2, 1) := by decide +kernel
theorem d_Reckoner_know_20 : decode kY_Reckoner_know.2.1 20 = .ok (.iload_n 3, 1) := by decide +kernel
theorem d_Reckoner_know_21 : decode kY_Reckoner_know.2.1 21 = .ok (.invokevirtual 22, 3) := by decide +kernel
theorem lV_Reckoner_22 : mj_lV "TrustDesk$Reckoner" 22 kY_Facts_asKnown 3 := ⟨⟨(mj_in1 (List.mem_of_getElem? (i := 855) (by decide +kernel)) rfl), (mj_in1 (List.mem_of_getElem? (i := 2) (by decide +kernel)) rfl), (mj_in1 (List.mem_of_getElem? (i := 332) (by decide +kernel)) rfl), by decide, rfl, by decide⟩, (mj_in1 (List.mem_of_getElem? (i := 330) (by decide +kernel)) rfl), (mj_in1 (List.mem_of_getElem? (i := 331) (by decide +kernel)) rfl)⟩
theorem d_Reckoner_know_24 : decode kY_Reckoner_know.2.1 24 = .ok (.i2l, 1) := by decide +kernel
theorem d_Reckoner_know_25 : decode kY_Reckoner_know.2.1 25 = .ok (.lastore, 1) := by decide +kernel
theorem d_Reckoner_know_26 : decode kY_Reckoner_know.2.1 26 = .ok (.iinc 4 1, 3) := by decide +kernel
theorem d_Reckoner_know_29 : decode kY_Reckoner_know.2.1 29 = .ok (.goto (-26), 3) := by decide +kernel
def w_Reckoner_know : List Nat := [1050]
theorem tc_Reckoner_know {g : mj_G} {l : Launch} {d : Nat} {T0 : tm_H} {M0 : mj_M} {n0 x9 : Nat} {o0 : Nat} {o1 : Nat} {x2 : Int32} {x3 : Int32} (h_o0 : T0 o0 = some (0, 10, 0)) (h_o1 : T0 o1 = some (0, 5, 0)) (I0 : tm_I tm_FT (tm_in w_Reckoner_know) x9 T0 M0 n0 T0 M0 n0) : mj_Met g l kY_Reckoner_know (d + 1) [.ref o0, .ref o1, .int x2, .int x3] M0 n0 0 0 (tm_Q tm_FT (tm_in w_Reckoner_know) x9 T0 M0 n0 (fun r _ _ => r = none)) := by
  refine mj_enter (by decide) (Nat.le_of_ble_eq_true rfl) ?_
  refine mv_iconst (v := 0) d_Reckoner_know_0 (by decide) ?_
  refine mv_istore (lv' := [(4, .int 0), (0, .ref o0), (1, .ref o1), (2, .int x2), (3, .int x3)]) d_Reckoner_know_1 (by decide) rfl ?_
  have L3_1 : ∀ (k : Nat) (i4_1 : Int32) (T_1 : tm_H) (M_1 : mj_M) (n_1 : Nat), tm_I tm_FT (tm_in w_Reckoner_know) x9 T0 M0 n0 T_1 M_1 n_1 → T_1 o0 = some (0, 10, 0) → T_1 o1 = some (0, 5, 0) → 0 ≤ i4_1.toInt → 2147483647 - i4_1.toInt < (k : Int) → mj_V g l kY_Reckoner_know (d + 1) 3 [(4, .int i4_1), (0, .ref o0), (1, .ref o1), (2, .int x2), (3, .int x3)] [] M_1 n_1 0 0 (tm_Q tm_FT (tm_in w_Reckoner_know) x9 T0 M0 n0 (fun r _ _ => r = none)) := by
    intro k1
    induction k1 with
    | zero =>
      intro i4_1 T_1 M_1 n_1 I_1 h_q0_1 h_q1_1 iv0_1 hk1
      have := mz_hi i4_1
      omega
    | succ k1 ih1 =>
      intro i4_1 T_1 M_1 n_1 I_1 h_q0_1 h_q1_1 iv0_1 hk1
      refine mv_iload d_Reckoner_know_3 rfl ?_
      refine mv_bipush (v := 8) d_Reckoner_know_5 (by decide) ?_
      have := mz_hi i4_1
      refine mv_icmp_geZ (tgt := 32) (a := i4_1.toInt) (b := 8) d_Reckoner_know_7 (by decide) rfl (by decide) (fun b2 => ?_) (fun b2 => ?_)
      · exact mv_vret d_Reckoner_know_32 rfl ⟨_, I_1, rfl⟩
      · refine mv_aload_n d_Reckoner_know_10 rfl rfl ?_
        obtain ⟨a4, q3, t_a4⟩ := tm_atR I_1 h_q0_1 (k := 0) rfl
        refine tr_getK q3 d_Reckoner_know_11 f_Reckoner_9_10 ?_
        refine mv_iload d_Reckoner_know_14 rfl ?_
        refine mv_aload_n d_Reckoner_know_16 rfl rfl ?_
        refine mv_iload d_Reckoner_know_17 rfl ?_
        refine mv_iload_n d_Reckoner_know_19 rfl rfl ?_
        refine mv_iload_n d_Reckoner_know_20 rfl rfl ?_
        obtain ⟨_, b11, -⟩ := I_1.1 _ _ h_q1_1
        refine mv_callV (kc' := 0) (ks' := 0) (As := [.int i4_1, .int x2, .int x3]) (st9 := [.int x3, .int x2, .int i4_1, .ref o1, .int i4_1, .ref a4]) d_Reckoner_know_21 lV_Reckoner_22 b11 rfl (tc_Facts_asKnown (d := d) (x9 := x9) (o0 := o1) (x1 := i4_1) (x2 := x2) (x3 := x3) h_q1_1 I_1.start) rfl (Nat.le_of_ble_eq_true rfl) (Nat.le_of_ble_eq_true rfl) (Nat.le_of_ble_eq_true rfl) (hst := rfl) (fun b5r M6 n7 b5 => ?_)
        obtain ⟨T8, J9, v12, rfl⟩ := b5
        have I10 := I_1.call J9 (tm_sub (by decide)) (Or.inl rfl)
        have t13 := J9.up h_q0_1
        have t14 := J9.up h_q1_1
        have t15 := J9.up t_a4
        have q16 := J9.keep h_q0_1 (by decide) q3
        refine mv_i2l (v := v12.toInt64) d_Reckoner_know_24 rfl ?_
        refine tr_lastK tm_okF I10 t15 (by decide) (Or.inl (by decide)) d_Reckoner_know_25 (vp_in_iff.mpr (by omega)) (fun M17 I18 K19 => ?_)
        refine mv_iinc (v := (i4_1 + 1)) (lv' := [(4, .int (i4_1 + 1)), (0, .ref o0), (1, .ref o1), (2, .int x2), (3, .int x3)]) d_Reckoner_know_26 rfl rfl (by decide) rfl ?_
        refine mv_goto (tgt := 3) d_Reckoner_know_29 (by decide) ?_
        have b20 : (i4_1 + 1).toInt = i4_1.toInt + 1 := mz_addn 1 1 (by decide) (by have := mz_lo i4_1; omega) (by have := mz_hi i4_1; omega)
        exact ih1 (i4_1 + 1) T8 M17 n7 I18 t13 t14 (by first | omega | decide) (by omega)
  exact L3_1 4294967296 0 T0 M0 n0 I0 h_o0 h_o1 (by first | omega | decide) (by show (2147483647 : Int) - _ < _; decide)
abbrev kY_Reckoner_knowFund : mj_Y := (⟨"TrustDesk$Reckoner", "knowFund", "(LTrustDesk$Fund;)V"⟩, prog_11_method_3_code, 2, (Option.none : Option Jvm.ClassFile.FieldType))
theorem d_Reckoner_knowFund_0 : decode kY_Reckoner_knowFund.2.1 0 = .ok (.aload_n 1, 1) := by decide +kernel
theorem d_Reckoner_knowFund_1 : decode kY_Reckoner_knowFund.2.1 1 = .ok (.ifnonnull 4, 3) := by decide +kernel
theorem d_Reckoner_knowFund_5 : decode kY_Reckoner_knowFund.2.1 5 = .ok (.aload_n 0, 1) := by decide +kernel
theorem d_Reckoner_knowFund_6 : decode kY_Reckoner_knowFund.2.1 6 = .ok (.getfield 9, 3) := by decide +kernel
theorem d_Reckoner_knowFund_9 : decode kY_Reckoner_knowFund.2.1 9 = .ok (.bipush 8, 2) := by decide +kernel
theorem d_Reckoner_knowFund_11 : decode kY_Reckoner_knowFund.2.1 11 = .ok (.aload_n 1, 1) := by decide +kernel
theorem d_Reckoner_knowFund_12 : decode kY_Reckoner_knowFund.2.1 12 = .ok (.aload_n 0, 1) := by decide +kernel
theorem d_Reckoner_knowFund_13 : decode kY_Reckoner_knowFund.2.1 13 = .ok (.getfield 9, 3) := by decide +kernel
theorem d_Reckoner_knowFund_16 : decode kY_Reckoner_knowFund.2.1 16 = .ok (.bipush 6, 2) := by decide +kernel
theorem d_Reckoner_knowFund_18 : decode kY_Reckoner_knowFund.2.1 18 = .ok (.laload, 1) := by decide +kernel
theorem d_Reckoner_knowFund_19 : decode kY_Reckoner_knowFund.2.1 19 = .ok (.invokevirtual 28, 3) := by decide +kernel
theorem lV_Reckoner_28 : mj_lV "TrustDesk$Reckoner" 28 kY_Fund_incomeAt 1 := ⟨⟨(mj_in1 (List.mem_of_getElem? (i := 886) (by decide +kernel)) rfl), (mj_in1 (List.mem_of_getElem? (i := 21) (by decide +kernel)) rfl), (mj_in1 (List.mem_of_getElem? (i := 876) (by decide +kernel)) rfl), by decide, rfl, by decide⟩, (mj_in1 (List.mem_of_getElem? (i := 874) (by decide +kernel)) rfl), (mj_in1 (List.mem_of_getElem? (i := 875) (by decide +kernel)) rfl)⟩
theorem d_Reckoner_knowFund_22 : decode kY_Reckoner_knowFund.2.1 22 = .ok (.ldc2_w 34, 3) := by decide +kernel
theorem d_Reckoner_knowFund_25 : decode kY_Reckoner_knowFund.2.1 25 = .ok (.invokestatic 36, 3) := by decide +kernel
theorem d_Reckoner_knowFund_28 : decode kY_Reckoner_knowFund.2.1 28 = .ok (.lastore, 1) := by decide +kernel
theorem d_Reckoner_knowFund_29 : decode kY_Reckoner_knowFund.2.1 29 = .ok (.aload_n 0, 1) := by decide +kernel
theorem d_Reckoner_knowFund_30 : decode kY_Reckoner_knowFund.2.1 30 = .ok (.getfield 9, 3) := by decide +kernel
theorem d_Reckoner_knowFund_33 : decode kY_Reckoner_knowFund.2.1 33 = .ok (.bipush 9, 2) := by decide +kernel
theorem d_Reckoner_knowFund_35 : decode kY_Reckoner_knowFund.2.1 35 = .ok (.aload_n 1, 1) := by decide +kernel
theorem d_Reckoner_knowFund_36 : decode kY_Reckoner_knowFund.2.1 36 = .ok (.getfield 42, 3) := by decide +kernel
theorem f_Reckoner_42_6 : mj_fl "TrustDesk$Reckoner" 42 6 3 := ⟨kR_Fund, kF_Fund, 15, "TrustDesk$Fund", rfl, kg_6, by decide, (mj_in1 (List.mem_of_getElem? (i := 670) (by decide +kernel)) rfl), Or.inl rfl⟩
theorem d_Reckoner_knowFund_39 : decode kY_Reckoner_knowFund.2.1 39 = .ok (.ldc2_w 34, 3) := by decide +kernel
theorem d_Reckoner_knowFund_42 : decode kY_Reckoner_knowFund.2.1 42 = .ok (.invokestatic 36, 3) := by decide +kernel
theorem d_Reckoner_knowFund_45 : decode kY_Reckoner_knowFund.2.1 45 = .ok (.lastore, 1) := by decide +kernel
theorem d_Reckoner_knowFund_46 : decode kY_Reckoner_knowFund.2.1 46 = .ok (.return_, 1) := by decide +kernel
def w_Reckoner_knowFund : List Nat := [1050]
theorem tc_Reckoner_knowFund {g : mj_G} {l : Launch} {d : Nat} {T0 : tm_H} {M0 : mj_M} {n0 x9 : Nat} {o0 : Nat} {o1 : Nat} (h_o0 : T0 o0 = some (0, 10, 0)) (h_o1 : T0 o1 = some (0, 6, 0)) (I0 : tm_I tm_FT (tm_in w_Reckoner_knowFund) x9 T0 M0 n0 T0 M0 n0) : mj_Met g l kY_Reckoner_knowFund (d + 1) [.ref o0, .ref o1] M0 n0 0 0 (tm_Q tm_FT (tm_in w_Reckoner_knowFund) x9 T0 M0 n0 (fun r _ _ => r = none)) := by
  refine mj_enter (by decide) (Nat.le_of_ble_eq_true rfl) ?_
  refine mv_aload_n d_Reckoner_knowFund_0 rfl rfl ?_
  refine mv_ifnonnull (tgt := 5) d_Reckoner_knowFund_1 (by decide) ?_
  refine mv_aload_n d_Reckoner_knowFund_5 rfl rfl ?_
  obtain ⟨a2, q1, t_a2⟩ := tm_atR I0 h_o0 (k := 0) rfl
  refine tr_getK q1 d_Reckoner_knowFund_6 f_Reckoner_9_10 ?_
  refine mv_bipush (v := 8) d_Reckoner_knowFund_9 (by decide) ?_
  refine mv_aload_n d_Reckoner_knowFund_11 rfl rfl ?_
  refine mv_aload_n d_Reckoner_knowFund_12 rfl rfl ?_
  refine tr_getK (k := 0) q1 d_Reckoner_knowFund_13 f_Reckoner_9_10 ?_
  refine mv_bipush (v := 6) d_Reckoner_knowFund_16 (by decide) ?_
  refine tr_lald I0 t_a2 (by decide) d_Reckoner_knowFund_18 (by unfold vp_in; decide) (fun v3 => ?_)
  obtain ⟨_, b10, -⟩ := I0.1 _ _ h_o1
  refine mv_callV (kc' := 0) (ks' := 0) (As := [.long v3]) (st9 := [.long v3, .ref o1, .int 8, .ref a2]) d_Reckoner_knowFund_19 lV_Reckoner_28 b10 rfl (tc_Fund_incomeAt (d := d) (x9 := x9) (o0 := o1) (x1 := v3) h_o1 I0.start) rfl (Nat.le_of_ble_eq_true rfl) (Nat.le_of_ble_eq_true rfl) (Nat.le_of_ble_eq_true rfl) (hst := rfl) (fun b4r M5 n6 b4 => ?_)
  obtain ⟨T7, J8, v11, rfl⟩ := b4
  have I9 := I0.call J8 (tm_sub (by decide)) (Or.inl rfl)
  have t12 := J8.up h_o0
  have t13 := J8.up h_o1
  have t14 := J8.up t_a2
  have q15 := J8.keep h_o0 (by decide) q1
  refine mv_ldc2 d_Reckoner_knowFund_22 k_Reckoner_34 ?_
  refine mv_mmin_long (v := (if 1000000000 < v11 then 1000000000 else v11)) d_Reckoner_knowFund_25 (mj_in1 (List.mem_of_getElem? (i := 888) (by decide +kernel)) rfl) (Nat.le_of_ble_eq_true rfl) rfl ?_
  refine tr_lastK tm_okF I9 t14 (by decide) (Or.inl (by decide)) d_Reckoner_knowFund_28 (by unfold vp_in; decide) (fun M16 I17 K18 => ?_)
  refine mv_aload_n d_Reckoner_knowFund_29 rfl rfl ?_
  refine tr_getK (k := 0) (K18 _ 10 0 _ q15) d_Reckoner_knowFund_30 f_Reckoner_9_10 ?_
  refine mv_bipush (v := 9) d_Reckoner_knowFund_33 (by decide) ?_
  refine mv_aload_n d_Reckoner_knowFund_35 rfl rfl ?_
  obtain ⟨v20, q19⟩ := tm_atL I17 t13 (k := 3) rfl
  refine tr_getK q19 d_Reckoner_knowFund_36 f_Reckoner_42_6 ?_
  refine mv_ldc2 d_Reckoner_knowFund_39 k_Reckoner_34 ?_
  refine mv_mmin_long (v := (if 1000000000 < v20 then 1000000000 else v20)) d_Reckoner_knowFund_42 (mj_in1 (List.mem_of_getElem? (i := 888) (by decide +kernel)) rfl) (Nat.le_of_ble_eq_true rfl) rfl ?_
  refine tr_lastK tm_okF I17 t14 (by decide) (Or.inl (by decide)) d_Reckoner_knowFund_45 (by unfold vp_in; decide) (fun M21 I22 K23 => ?_)
  exact mv_vret d_Reckoner_knowFund_46 rfl ⟨_, I22, rfl⟩
abbrev kY_Reckoner_pop : mj_Y := (⟨"TrustDesk$Reckoner", "pop", "()J"⟩, prog_11_method_9_code, 1, (Option.some Jvm.ClassFile.FieldType.long))
theorem d_Reckoner_pop_0 : decode kY_Reckoner_pop.2.1 0 = .ok (.aload_n 0, 1) := by decide +kernel
theorem d_Reckoner_pop_1 : decode kY_Reckoner_pop.2.1 1 = .ok (.getfield 46, 3) := by decide +kernel
theorem f_Reckoner_46_10 : mj_fl "TrustDesk$Reckoner" 46 10 3 := ⟨kR_Reckoner, kF_Reckoner, 5, "TrustDesk$Reckoner", rfl, kg_10, by decide, (mj_in1 (List.mem_of_getElem? (i := 141) (by decide +kernel)) rfl), Or.inl rfl⟩
theorem d_Reckoner_pop_4 : decode kY_Reckoner_pop.2.1 4 = .ok (.iconst 1, 1) := by decide +kernel
theorem d_Reckoner_pop_5 : decode kY_Reckoner_pop.2.1 5 = .ok (.if_icmp .lt 12, 3) := by decide +kernel
theorem d_Reckoner_pop_17 : decode kY_Reckoner_pop.2.1 17 = .ok (.lconst 0, 1) := by decide +kernel
theorem d_Reckoner_pop_18 : decode kY_Reckoner_pop.2.1 18 = .ok (.lreturn, 1) := by decide +kernel
theorem d_Reckoner_pop_8 : decode kY_Reckoner_pop.2.1 8 = .ok (.aload_n 0, 1) := by decide +kernel
theorem d_Reckoner_pop_9 : decode kY_Reckoner_pop.2.1 9 = .ok (.getfield 46, 3) := by decide +kernel
theorem d_Reckoner_pop_12 : decode kY_Reckoner_pop.2.1 12 = .ok (.bipush 64, 2) := by decide +kernel
theorem d_Reckoner_pop_14 : decode kY_Reckoner_pop.2.1 14 = .ok (.if_icmp .le 5, 3) := by decide +kernel
theorem d_Reckoner_pop_19 : decode kY_Reckoner_pop.2.1 19 = .ok (.aload_n 0, 1) := by decide +kernel
theorem d_Reckoner_pop_20 : decode kY_Reckoner_pop.2.1 20 = .ok (.dup, 1) := by decide +kernel
theorem d_Reckoner_pop_21 : decode kY_Reckoner_pop.2.1 21 = .ok (.getfield 46, 3) := by decide +kernel
theorem d_Reckoner_pop_24 : decode kY_Reckoner_pop.2.1 24 = .ok (.iconst 1, 1) := by decide +kernel
theorem d_Reckoner_pop_25 : decode kY_Reckoner_pop.2.1 25 = .ok (.isub, 1) := by decide +kernel
theorem d_Reckoner_pop_26 : decode kY_Reckoner_pop.2.1 26 = .ok (.putfield 46, 3) := by decide +kernel
theorem p_Reckoner_46_10 : mj_fp "TrustDesk$Reckoner" 46 10 3 (kt_Reckoner 3) false := ⟨kR_Reckoner, kF_Reckoner, 5, "TrustDesk$Reckoner", kt_Reckoner, rfl, kg_10, by decide, (mj_in1 (List.mem_of_getElem? (i := 141) (by decide +kernel)) rfl), Or.inl rfl, kto_Reckoner, kn_Reckoner, rfl, rfl, fun h => by cases h⟩
theorem d_Reckoner_pop_29 : decode kY_Reckoner_pop.2.1 29 = .ok (.aload_n 0, 1) := by decide +kernel
theorem d_Reckoner_pop_30 : decode kY_Reckoner_pop.2.1 30 = .ok (.getfield 19, 3) := by decide +kernel
theorem f_Reckoner_19_10 : mj_fl "TrustDesk$Reckoner" 19 10 2 := ⟨kR_Reckoner, kF_Reckoner, 5, "TrustDesk$Reckoner", rfl, kg_10, by decide, (mj_in1 (List.mem_of_getElem? (i := 140) (by decide +kernel)) rfl), Or.inl rfl⟩
theorem d_Reckoner_pop_33 : decode kY_Reckoner_pop.2.1 33 = .ok (.aload_n 0, 1) := by decide +kernel
theorem d_Reckoner_pop_34 : decode kY_Reckoner_pop.2.1 34 = .ok (.getfield 46, 3) := by decide +kernel
theorem d_Reckoner_pop_37 : decode kY_Reckoner_pop.2.1 37 = .ok (.laload, 1) := by decide +kernel
theorem d_Reckoner_pop_38 : decode kY_Reckoner_pop.2.1 38 = .ok (.lreturn, 1) := by decide +kernel
def w_Reckoner_pop : List Nat := [1003]
theorem tc_Reckoner_pop {g : mj_G} {l : Launch} {d : Nat} {T0 : tm_H} {M0 : mj_M} {n0 x9 : Nat} {o0 : Nat} (h_o0 : T0 o0 = some (0, 10, 0)) (I0 : tm_I tm_FT (tm_in w_Reckoner_pop) x9 T0 M0 n0 T0 M0 n0) : mj_Met g l kY_Reckoner_pop d [.ref o0] M0 n0 0 0 (tm_Q tm_FT (tm_in w_Reckoner_pop) x9 T0 M0 n0 (fun r _ _ => ∃ v : Int64, r = some (.long v))) := by
  refine mj_enter (by decide) (Nat.le_of_ble_eq_true rfl) ?_
  refine mv_aload_n d_Reckoner_pop_0 rfl rfl ?_
  obtain ⟨v2, q1⟩ := tm_atI I0 h_o0 (k := 3) rfl
  refine tr_getK q1 d_Reckoner_pop_1 f_Reckoner_46_10 ?_
  refine mv_iconst (v := 1) d_Reckoner_pop_4 (by decide) ?_
  have := mz_hi v2
  refine mv_icmp_ltZ (tgt := 17) (a := v2.toInt) (b := 1) d_Reckoner_pop_5 (by decide) rfl (by decide) (fun b3 => ?_) (fun b3 => ?_)
  · refine mv_lconst (v := 0) d_Reckoner_pop_17 (by decide) ?_
    exact mv_lret d_Reckoner_pop_18 rfl ⟨_, I0, _, rfl⟩
  · refine mv_aload_n d_Reckoner_pop_8 rfl rfl ?_
    refine tr_getK (k := 3) q1 d_Reckoner_pop_9 f_Reckoner_46_10 ?_
    refine mv_bipush (v := 64) d_Reckoner_pop_12 (by decide) ?_
    have := mz_hi v2
    refine mv_icmp_leZ (tgt := 19) (a := v2.toInt) (b := 64) d_Reckoner_pop_14 (by decide) rfl (by decide) (fun b4 => ?_) (fun b4 => ?_)
    · refine mv_aload_n d_Reckoner_pop_19 rfl rfl ?_
      refine mv_dup d_Reckoner_pop_20 rfl ?_
      refine tr_getK (k := 3) q1 d_Reckoner_pop_21 f_Reckoner_46_10 ?_
      refine mv_iconst (v := 1) d_Reckoner_pop_24 (by decide) ?_
      refine mv_isub d_Reckoner_pop_25 ?_
      refine tr_putK tm_okF I0 h_o0 (k := 3) rfl ⟨_, rfl⟩ (Or.inl (by decide)) d_Reckoner_pop_26 p_Reckoner_46_10 rfl rfl (fun M5 I6 q7 K8 => ?_)
      refine mv_aload_n d_Reckoner_pop_29 rfl rfl ?_
      obtain ⟨a10, q9, t_a10⟩ := tm_atR I6 h_o0 (k := 2) rfl
      refine tr_getK q9 d_Reckoner_pop_30 f_Reckoner_19_10 ?_
      refine mv_aload_n d_Reckoner_pop_33 rfl rfl ?_
      refine tr_getK (k := 3) q7 d_Reckoner_pop_34 f_Reckoner_46_10 ?_
      have b11 : (v2 - 1).toInt = v2.toInt - 1 := mz_subn 1 1 (by decide) (by omega) (by omega)
      refine tr_lald I6 t_a10 (by decide) d_Reckoner_pop_37 (vp_in_iff.mpr (by omega)) (fun v12 => ?_)
      exact mv_lret d_Reckoner_pop_38 rfl ⟨_, I6, _, rfl⟩
    · refine mv_lconst (v := 0) d_Reckoner_pop_17 (by decide) ?_
      exact mv_lret d_Reckoner_pop_18 rfl ⟨_, I0, _, rfl⟩
abbrev kY_Reckoner_push : mj_Y := (⟨"TrustDesk$Reckoner", "push", "(J)V"⟩, prog_11_method_8_code, 3, (Option.none : Option Jvm.ClassFile.FieldType))
theorem d_Reckoner_push_0 : decode kY_Reckoner_push.2.1 0 = .ok (.aload_n 0, 1) := by decide +kernel
theorem d_Reckoner_push_1 : decode kY_Reckoner_push.2.1 1 = .ok (.getfield 46, 3) := by decide +kernel
theorem d_Reckoner_push_4 : decode kY_Reckoner_push.2.1 4 = .ok (.ifCond .lt 32, 3) := by decide +kernel
theorem d_Reckoner_push_36 : decode kY_Reckoner_push.2.1 36 = .ok (.return_, 1) := by decide +kernel
theorem d_Reckoner_push_7 : decode kY_Reckoner_push.2.1 7 = .ok (.aload_n 0, 1) := by decide +kernel
theorem d_Reckoner_push_8 : decode kY_Reckoner_push.2.1 8 = .ok (.getfield 46, 3) := by decide +kernel
theorem d_Reckoner_push_11 : decode kY_Reckoner_push.2.1 11 = .ok (.bipush 64, 2) := by decide +kernel
theorem d_Reckoner_push_13 : decode kY_Reckoner_push.2.1 13 = .ok (.if_icmp .ge 23, 3) := by decide +kernel
theorem d_Reckoner_push_16 : decode kY_Reckoner_push.2.1 16 = .ok (.aload_n 0, 1) := by decide +kernel
theorem d_Reckoner_push_17 : decode kY_Reckoner_push.2.1 17 = .ok (.getfield 19, 3) := by decide +kernel
theorem d_Reckoner_push_20 : decode kY_Reckoner_push.2.1 20 = .ok (.aload_n 0, 1) := by decide +kernel
theorem d_Reckoner_push_21 : decode kY_Reckoner_push.2.1 21 = .ok (.getfield 46, 3) := by decide +kernel
theorem d_Reckoner_push_24 : decode kY_Reckoner_push.2.1 24 = .ok (.lload_n 1, 1) := by decide +kernel
theorem d_Reckoner_push_25 : decode kY_Reckoner_push.2.1 25 = .ok (.lastore, 1) := by decide +kernel
theorem d_Reckoner_push_26 : decode kY_Reckoner_push.2.1 26 = .ok (.aload_n 0, 1) := by decide +kernel
theorem d_Reckoner_push_27 : decode kY_Reckoner_push.2.1 27 = .ok (.dup, 1) := by decide +kernel
theorem d_Reckoner_push_28 : decode kY_Reckoner_push.2.1 28 = .ok (.getfield 46, 3) := by decide +kernel
theorem d_Reckoner_push_31 : decode kY_Reckoner_push.2.1 31 = .ok (.iconst 1, 1) := by decide +kernel
theorem d_Reckoner_push_32 : decode kY_Reckoner_push.2.1 32 = .ok (.iadd, 1) := by decide +kernel
theorem d_Reckoner_push_33 : decode kY_Reckoner_push.2.1 33 = .ok (.putfield 46, 3) := by decide +kernel
def w_Reckoner_push : List Nat := [1003, 1052]
theorem tc_Reckoner_push {g : mj_G} {l : Launch} {d : Nat} {T0 : tm_H} {M0 : mj_M} {n0 x9 : Nat} {o0 : Nat} {x1 : Int64} (h_o0 : T0 o0 = some (0, 10, 0)) (I0 : tm_I tm_FT (tm_in w_Reckoner_push) x9 T0 M0 n0 T0 M0 n0) : mj_Met g l kY_Reckoner_push d [.ref o0, .long x1] M0 n0 0 0 (tm_Q tm_FT (tm_in w_Reckoner_push) x9 T0 M0 n0 (fun r _ _ => r = none)) := by
  refine mj_enter (by decide) (Nat.le_of_ble_eq_true rfl) ?_
  refine mv_aload_n d_Reckoner_push_0 rfl rfl ?_
  obtain ⟨v2, q1⟩ := tm_atI I0 h_o0 (k := 3) rfl
  refine tr_getK q1 d_Reckoner_push_1 f_Reckoner_46_10 ?_
  have := mz_hi v2
  refine mv_if_ltZ (tgt := 36) (a := v2.toInt) d_Reckoner_push_4 (by decide) rfl (fun b3 => ?_) (fun b3 => ?_)
  · exact mv_vret d_Reckoner_push_36 rfl ⟨_, I0, rfl⟩
  · refine mv_aload_n d_Reckoner_push_7 rfl rfl ?_
    refine tr_getK (k := 3) q1 d_Reckoner_push_8 f_Reckoner_46_10 ?_
    refine mv_bipush (v := 64) d_Reckoner_push_11 (by decide) ?_
    have := mz_hi v2
    refine mv_icmp_geZ (tgt := 36) (a := v2.toInt) (b := 64) d_Reckoner_push_13 (by decide) rfl (by decide) (fun b4 => ?_) (fun b4 => ?_)
    · exact mv_vret d_Reckoner_push_36 rfl ⟨_, I0, rfl⟩
    · refine mv_aload_n d_Reckoner_push_16 rfl rfl ?_
      obtain ⟨a6, q5, t_a6⟩ := tm_atR I0 h_o0 (k := 2) rfl
      refine tr_getK q5 d_Reckoner_push_17 f_Reckoner_19_10 ?_
      refine mv_aload_n d_Reckoner_push_20 rfl rfl ?_
      refine tr_getK (k := 3) q1 d_Reckoner_push_21 f_Reckoner_46_10 ?_
      refine mv_lload_n d_Reckoner_push_24 rfl rfl ?_
      refine tr_lastK tm_okF I0 t_a6 (by decide) (Or.inl (by decide)) d_Reckoner_push_25 (vp_in_iff.mpr (by omega)) (fun M7 I8 K9 => ?_)
      refine mv_aload_n d_Reckoner_push_26 rfl rfl ?_
      refine mv_dup d_Reckoner_push_27 rfl ?_
      refine tr_getK (k := 3) (K9 _ 10 3 _ q1) d_Reckoner_push_28 f_Reckoner_46_10 ?_
      refine mv_iconst (v := 1) d_Reckoner_push_31 (by decide) ?_
      refine mv_iadd d_Reckoner_push_32 ?_
      refine tr_putK tm_okF I8 h_o0 (k := 3) rfl ⟨_, rfl⟩ (Or.inl (by decide)) d_Reckoner_push_33 p_Reckoner_46_10 rfl rfl (fun M10 I11 q12 K13 => ?_)
      exact mv_vret d_Reckoner_push_36 rfl ⟨_, I11, rfl⟩
abbrev kY_Reckoner_worked : mj_Y := (⟨"TrustDesk$Reckoner", "worked", "(IJJ)J"⟩, prog_11_method_5_code, 6, (Option.some Jvm.ClassFile.FieldType.long))
theorem d_Reckoner_worked_0 : decode kY_Reckoner_worked.2.1 0 = .ok (.iload_n 1, 1) := by decide +kernel
theorem d_Reckoner_worked_1 : decode kY_Reckoner_worked.2.1 1 = .ok (.tableswitch 127 2 9 #[47, 55, 63, 71, 88, 105, 127, 122], 47) := by decide +kernel
theorem d_Reckoner_worked_128 : decode kY_Reckoner_worked.2.1 128 = .ok (.lload_n 2, 1) := by decide +kernel
theorem d_Reckoner_worked_129 : decode kY_Reckoner_worked.2.1 129 = .ok (.lload 4, 2) := by decide +kernel
theorem d_Reckoner_worked_131 : decode kY_Reckoner_worked.2.1 131 = .ok (.lor, 1) := by decide +kernel
theorem d_Reckoner_worked_132 : decode kY_Reckoner_worked.2.1 132 = .ok (.lreturn, 1) := by decide +kernel
theorem d_Reckoner_worked_48 : decode kY_Reckoner_worked.2.1 48 = .ok (.lload_n 2, 1) := by decide +kernel
theorem d_Reckoner_worked_49 : decode kY_Reckoner_worked.2.1 49 = .ok (.lload 4, 2) := by decide +kernel
theorem d_Reckoner_worked_51 : decode kY_Reckoner_worked.2.1 51 = .ok (.ladd, 1) := by decide +kernel
theorem d_Reckoner_worked_52 : decode kY_Reckoner_worked.2.1 52 = .ok (.invokestatic 70, 3) := by decide +kernel
theorem lS_Reckoner_70 : mj_lS "TrustDesk$Reckoner" 70 kY_Reckoner_bounded 1 := ⟨⟨(mj_in1 (List.mem_of_getElem? (i := 905) (by decide +kernel)) rfl), (mj_in1 (List.mem_of_getElem? (i := 4) (by decide +kernel)) rfl), (mj_in1 (List.mem_of_getElem? (i := 907) (by decide +kernel)) rfl), by decide, rfl, by decide⟩, (mj_in1 (List.mem_of_getElem? (i := 906) (by decide +kernel)) rfl)⟩
theorem d_Reckoner_worked_55 : decode kY_Reckoner_worked.2.1 55 = .ok (.lreturn, 1) := by decide +kernel
theorem d_Reckoner_worked_56 : decode kY_Reckoner_worked.2.1 56 = .ok (.lload_n 2, 1) := by decide +kernel
theorem d_Reckoner_worked_57 : decode kY_Reckoner_worked.2.1 57 = .ok (.lload 4, 2) := by decide +kernel
theorem d_Reckoner_worked_59 : decode kY_Reckoner_worked.2.1 59 = .ok (.lsub, 1) := by decide +kernel
theorem d_Reckoner_worked_60 : decode kY_Reckoner_worked.2.1 60 = .ok (.invokestatic 70, 3) := by decide +kernel
theorem d_Reckoner_worked_63 : decode kY_Reckoner_worked.2.1 63 = .ok (.lreturn, 1) := by decide +kernel
theorem d_Reckoner_worked_64 : decode kY_Reckoner_worked.2.1 64 = .ok (.lload_n 2, 1) := by decide +kernel
theorem d_Reckoner_worked_65 : decode kY_Reckoner_worked.2.1 65 = .ok (.lload 4, 2) := by decide +kernel
theorem d_Reckoner_worked_67 : decode kY_Reckoner_worked.2.1 67 = .ok (.lmul, 1) := by decide +kernel
theorem d_Reckoner_worked_68 : decode kY_Reckoner_worked.2.1 68 = .ok (.invokestatic 70, 3) := by decide +kernel
theorem d_Reckoner_worked_71 : decode kY_Reckoner_worked.2.1 71 = .ok (.lreturn, 1) := by decide +kernel
theorem d_Reckoner_worked_72 : decode kY_Reckoner_worked.2.1 72 = .ok (.aload_n 0, 1) := by decide +kernel
theorem d_Reckoner_worked_73 : decode kY_Reckoner_worked.2.1 73 = .ok (.lload_n 2, 1) := by decide +kernel
theorem d_Reckoner_worked_74 : decode kY_Reckoner_worked.2.1 74 = .ok (.lload 4, 2) := by decide +kernel
theorem d_Reckoner_worked_76 : decode kY_Reckoner_worked.2.1 76 = .ok (.lcmp, 1) := by decide +kernel
theorem d_Reckoner_worked_77 : decode kY_Reckoner_worked.2.1 77 = .ok (.ifCond .ge 7, 3) := by decide +kernel
theorem d_Reckoner_worked_84 : decode kY_Reckoner_worked.2.1 84 = .ok (.iconst 0, 1) := by decide +kernel
theorem d_Reckoner_worked_85 : decode kY_Reckoner_worked.2.1 85 = .ok (.invokevirtual 73, 3) := by decide +kernel
theorem lV_Reckoner_73 : mj_lV "TrustDesk$Reckoner" 73 kY_Reckoner_compared 1 := ⟨⟨(mj_in1 (List.mem_of_getElem? (i := 912) (by decide +kernel)) rfl), (mj_in1 (List.mem_of_getElem? (i := 4) (by decide +kernel)) rfl), (mj_in1 (List.mem_of_getElem? (i := 915) (by decide +kernel)) rfl), by decide, rfl, by decide⟩, (mj_in1 (List.mem_of_getElem? (i := 914) (by decide +kernel)) rfl), (mj_in (List.mem_append_left _ (List.mem_of_getElem? (i := 46) (by decide +kernel))) rfl)⟩
theorem d_Reckoner_worked_88 : decode kY_Reckoner_worked.2.1 88 = .ok (.lreturn, 1) := by decide +kernel
theorem d_Reckoner_worked_80 : decode kY_Reckoner_worked.2.1 80 = .ok (.iconst 1, 1) := by decide +kernel
theorem d_Reckoner_worked_81 : decode kY_Reckoner_worked.2.1 81 = .ok (.goto 4, 3) := by decide +kernel
theorem d_Reckoner_worked_89 : decode kY_Reckoner_worked.2.1 89 = .ok (.aload_n 0, 1) := by decide +kernel
theorem d_Reckoner_worked_90 : decode kY_Reckoner_worked.2.1 90 = .ok (.lload_n 2, 1) := by decide +kernel
theorem d_Reckoner_worked_91 : decode kY_Reckoner_worked.2.1 91 = .ok (.lload 4, 2) := by decide +kernel
theorem d_Reckoner_worked_93 : decode kY_Reckoner_worked.2.1 93 = .ok (.lcmp, 1) := by decide +kernel
theorem d_Reckoner_worked_94 : decode kY_Reckoner_worked.2.1 94 = .ok (.ifCond .le 7, 3) := by decide +kernel
theorem d_Reckoner_worked_101 : decode kY_Reckoner_worked.2.1 101 = .ok (.iconst 0, 1) := by decide +kernel
theorem d_Reckoner_worked_102 : decode kY_Reckoner_worked.2.1 102 = .ok (.invokevirtual 73, 3) := by decide +kernel
theorem d_Reckoner_worked_105 : decode kY_Reckoner_worked.2.1 105 = .ok (.lreturn, 1) := by decide +kernel
theorem d_Reckoner_worked_97 : decode kY_Reckoner_worked.2.1 97 = .ok (.iconst 1, 1) := by decide +kernel
theorem d_Reckoner_worked_98 : decode kY_Reckoner_worked.2.1 98 = .ok (.goto 4, 3) := by decide +kernel
theorem d_Reckoner_worked_106 : decode kY_Reckoner_worked.2.1 106 = .ok (.aload_n 0, 1) := by decide +kernel
theorem d_Reckoner_worked_107 : decode kY_Reckoner_worked.2.1 107 = .ok (.lload_n 2, 1) := by decide +kernel
theorem d_Reckoner_worked_108 : decode kY_Reckoner_worked.2.1 108 = .ok (.lload 4, 2) := by decide +kernel
theorem d_Reckoner_worked_110 : decode kY_Reckoner_worked.2.1 110 = .ok (.lcmp, 1) := by decide +kernel
theorem d_Reckoner_worked_111 : decode kY_Reckoner_worked.2.1 111 = .ok (.ifCond .ne 7, 3) := by decide +kernel
theorem d_Reckoner_worked_118 : decode kY_Reckoner_worked.2.1 118 = .ok (.iconst 0, 1) := by decide +kernel
theorem d_Reckoner_worked_119 : decode kY_Reckoner_worked.2.1 119 = .ok (.invokevirtual 73, 3) := by decide +kernel
theorem d_Reckoner_worked_122 : decode kY_Reckoner_worked.2.1 122 = .ok (.lreturn, 1) := by decide +kernel
theorem d_Reckoner_worked_114 : decode kY_Reckoner_worked.2.1 114 = .ok (.iconst 1, 1) := by decide +kernel
theorem d_Reckoner_worked_115 : decode kY_Reckoner_worked.2.1 115 = .ok (.goto 4, 3) := by decide +kernel
theorem d_Reckoner_worked_123 : decode kY_Reckoner_worked.2.1 123 = .ok (.lload_n 2, 1) := by decide +kernel
theorem d_Reckoner_worked_124 : decode kY_Reckoner_worked.2.1 124 = .ok (.lload 4, 2) := by decide +kernel
theorem d_Reckoner_worked_126 : decode kY_Reckoner_worked.2.1 126 = .ok (.land, 1) := by decide +kernel
theorem d_Reckoner_worked_127 : decode kY_Reckoner_worked.2.1 127 = .ok (.lreturn, 1) := by decide +kernel
def w_Reckoner_worked : List Nat := [1001, 1004]
theorem tc_Reckoner_worked {g : mj_G} {l : Launch} {d : Nat} {T0 : tm_H} {M0 : mj_M} {n0 x9 : Nat} {o0 : Nat} {x1 : Int32} {x2 : Int64} {x3 : Int64} (h_o0 : T0 o0 = some (0, 10, 0)) (I0 : tm_I tm_FT (tm_in w_Reckoner_worked) x9 T0 M0 n0 T0 M0 n0) : mj_Met g l kY_Reckoner_worked (d + 2) [.ref o0, .int x1, .long x2, .long x3] M0 n0 0 0 (tm_Q tm_FT (tm_in w_Reckoner_worked) x9 T0 M0 n0 (fun r _ _ => ∃ v : Int64, r = some (.long v))) := by
  refine mj_enter (by decide) (Nat.le_of_ble_eq_true rfl) ?_
  refine mv_iload_n d_Reckoner_worked_0 rfl rfl ?_
  rcases (show (x1.toInt < 2 ∨ 9 < x1.toInt) ∨ x1.toInt = 2 ∨ x1.toInt = 3 ∨ x1.toInt = 4 ∨ x1.toInt = 5 ∨ x1.toInt = 6 ∨ x1.toInt = 7 ∨ x1.toInt = 8 ∨ x1.toInt = 9 by omega) with b1 | b1 | b1 | b1 | b1 | b1 | b1 | b1 | b1
  · refine mv_tableOut (tgt := 128) d_Reckoner_worked_1 b1 (by decide) ?_
    refine mv_lload_n d_Reckoner_worked_128 rfl rfl ?_
    refine mv_lload d_Reckoner_worked_129 rfl ?_
    refine mv_lor d_Reckoner_worked_131 ?_
    exact mv_lret d_Reckoner_worked_132 rfl ⟨_, I0, _, rfl⟩
  · refine mv_tableIn (tgt := 48) (off := 47) d_Reckoner_worked_1 (by omega) (by omega) (by rw [b1]; rfl) (by decide) ?_
    refine mv_lload_n d_Reckoner_worked_48 rfl rfl ?_
    refine mv_lload d_Reckoner_worked_49 rfl ?_
    refine mv_ladd d_Reckoner_worked_51 ?_
    refine mv_callS (kc' := 0) (ks' := 0) (As := [.long (x2 + x3)]) (st9 := [.long (x2 + x3)]) d_Reckoner_worked_52 lS_Reckoner_70 (tc_Reckoner_bounded (d := d) (x9 := x9) (x1 := (x2 + x3))  I0.start) rfl (Nat.le_of_ble_eq_true rfl) (Nat.le_of_ble_eq_true rfl) (Nat.le_of_ble_eq_true rfl) (hst := rfl) (fun b2r M3 n4 b2 => ?_)
    obtain ⟨T5, J6, v8, rfl⟩ := b2
    have I7 := I0.call J6 (tm_sub (by decide)) (Or.inl rfl)
    have t9 := J6.up h_o0
    exact mv_lret d_Reckoner_worked_55 rfl ⟨_, I7, _, rfl⟩
  · refine mv_tableIn (tgt := 56) (off := 55) d_Reckoner_worked_1 (by omega) (by omega) (by rw [b1]; rfl) (by decide) ?_
    refine mv_lload_n d_Reckoner_worked_56 rfl rfl ?_
    refine mv_lload d_Reckoner_worked_57 rfl ?_
    refine mv_lsub d_Reckoner_worked_59 ?_
    refine mv_callS (kc' := 0) (ks' := 0) (As := [.long (x2 - x3)]) (st9 := [.long (x2 - x3)]) d_Reckoner_worked_60 lS_Reckoner_70 (tc_Reckoner_bounded (d := d) (x9 := x9) (x1 := (x2 - x3))  I0.start) rfl (Nat.le_of_ble_eq_true rfl) (Nat.le_of_ble_eq_true rfl) (Nat.le_of_ble_eq_true rfl) (hst := rfl) (fun b10r M11 n12 b10 => ?_)
    obtain ⟨T13, J14, v16, rfl⟩ := b10
    have I15 := I0.call J14 (tm_sub (by decide)) (Or.inl rfl)
    have t17 := J14.up h_o0
    exact mv_lret d_Reckoner_worked_63 rfl ⟨_, I15, _, rfl⟩
  · refine mv_tableIn (tgt := 64) (off := 63) d_Reckoner_worked_1 (by omega) (by omega) (by rw [b1]; rfl) (by decide) ?_
    refine mv_lload_n d_Reckoner_worked_64 rfl rfl ?_
    refine mv_lload d_Reckoner_worked_65 rfl ?_
    refine mv_lmul d_Reckoner_worked_67 ?_
    refine mv_callS (kc' := 0) (ks' := 0) (As := [.long (x2 * x3)]) (st9 := [.long (x2 * x3)]) d_Reckoner_worked_68 lS_Reckoner_70 (tc_Reckoner_bounded (d := d) (x9 := x9) (x1 := (x2 * x3))  I0.start) rfl (Nat.le_of_ble_eq_true rfl) (Nat.le_of_ble_eq_true rfl) (Nat.le_of_ble_eq_true rfl) (hst := rfl) (fun b18r M19 n20 b18 => ?_)
    obtain ⟨T21, J22, v24, rfl⟩ := b18
    have I23 := I0.call J22 (tm_sub (by decide)) (Or.inl rfl)
    have t25 := J22.up h_o0
    exact mv_lret d_Reckoner_worked_71 rfl ⟨_, I23, _, rfl⟩
  · refine mv_tableIn (tgt := 72) (off := 71) d_Reckoner_worked_1 (by omega) (by omega) (by rw [b1]; rfl) (by decide) ?_
    refine mv_aload_n d_Reckoner_worked_72 rfl rfl ?_
    refine mv_lload_n d_Reckoner_worked_73 rfl rfl ?_
    refine mv_lload d_Reckoner_worked_74 rfl ?_
    refine mv_lgeZ (tgt := 84) (a := x2.toInt) (b := x3.toInt) d_Reckoner_worked_76 d_Reckoner_worked_77 (by decide) rfl rfl (fun b26 => ?_) (fun b26 => ?_)
    · refine mv_iconst (v := 0) d_Reckoner_worked_84 (by decide) ?_
      obtain ⟨_, b33, -⟩ := I0.1 _ _ h_o0
      refine mv_callV (kc' := 0) (ks' := 0) (As := [.int 0]) (st9 := [.int 0, .ref o0]) d_Reckoner_worked_85 lV_Reckoner_73 b33 rfl (tc_Reckoner_compared (d := (d + 1)) (x9 := x9) (o0 := o0) (x1 := 0) h_o0 I0.start) rfl (Nat.le_of_ble_eq_true rfl) (Nat.le_of_ble_eq_true rfl) (Nat.le_of_ble_eq_true rfl) (hst := rfl) (fun b27r M28 n29 b27 => ?_)
      obtain ⟨T30, J31, v34, rfl⟩ := b27
      have I32 := I0.call J31 (tm_sub (by decide)) (Or.inl rfl)
      have t35 := J31.up h_o0
      exact mv_lret d_Reckoner_worked_88 rfl ⟨_, I32, _, rfl⟩
    · refine mv_iconst (v := 1) d_Reckoner_worked_80 (by decide) ?_
      refine mv_goto (tgt := 85) d_Reckoner_worked_81 (by decide) ?_
      obtain ⟨_, b42, -⟩ := I0.1 _ _ h_o0
      refine mv_callV (kc' := 0) (ks' := 0) (As := [.int 1]) (st9 := [.int 1, .ref o0]) d_Reckoner_worked_85 lV_Reckoner_73 b42 rfl (tc_Reckoner_compared (d := (d + 1)) (x9 := x9) (o0 := o0) (x1 := 1) h_o0 I0.start) rfl (Nat.le_of_ble_eq_true rfl) (Nat.le_of_ble_eq_true rfl) (Nat.le_of_ble_eq_true rfl) (hst := rfl) (fun b36r M37 n38 b36 => ?_)
      obtain ⟨T39, J40, v43, rfl⟩ := b36
      have I41 := I0.call J40 (tm_sub (by decide)) (Or.inl rfl)
      have t44 := J40.up h_o0
      exact mv_lret d_Reckoner_worked_88 rfl ⟨_, I41, _, rfl⟩
  · refine mv_tableIn (tgt := 89) (off := 88) d_Reckoner_worked_1 (by omega) (by omega) (by rw [b1]; rfl) (by decide) ?_
    refine mv_aload_n d_Reckoner_worked_89 rfl rfl ?_
    refine mv_lload_n d_Reckoner_worked_90 rfl rfl ?_
    refine mv_lload d_Reckoner_worked_91 rfl ?_
    refine mv_lleZ (tgt := 101) (a := x2.toInt) (b := x3.toInt) d_Reckoner_worked_93 d_Reckoner_worked_94 (by decide) rfl rfl (fun b45 => ?_) (fun b45 => ?_)
    · refine mv_iconst (v := 0) d_Reckoner_worked_101 (by decide) ?_
      obtain ⟨_, b52, -⟩ := I0.1 _ _ h_o0
      refine mv_callV (kc' := 0) (ks' := 0) (As := [.int 0]) (st9 := [.int 0, .ref o0]) d_Reckoner_worked_102 lV_Reckoner_73 b52 rfl (tc_Reckoner_compared (d := (d + 1)) (x9 := x9) (o0 := o0) (x1 := 0) h_o0 I0.start) rfl (Nat.le_of_ble_eq_true rfl) (Nat.le_of_ble_eq_true rfl) (Nat.le_of_ble_eq_true rfl) (hst := rfl) (fun b46r M47 n48 b46 => ?_)
      obtain ⟨T49, J50, v53, rfl⟩ := b46
      have I51 := I0.call J50 (tm_sub (by decide)) (Or.inl rfl)
      have t54 := J50.up h_o0
      exact mv_lret d_Reckoner_worked_105 rfl ⟨_, I51, _, rfl⟩
    · refine mv_iconst (v := 1) d_Reckoner_worked_97 (by decide) ?_
      refine mv_goto (tgt := 102) d_Reckoner_worked_98 (by decide) ?_
      obtain ⟨_, b61, -⟩ := I0.1 _ _ h_o0
      refine mv_callV (kc' := 0) (ks' := 0) (As := [.int 1]) (st9 := [.int 1, .ref o0]) d_Reckoner_worked_102 lV_Reckoner_73 b61 rfl (tc_Reckoner_compared (d := (d + 1)) (x9 := x9) (o0 := o0) (x1 := 1) h_o0 I0.start) rfl (Nat.le_of_ble_eq_true rfl) (Nat.le_of_ble_eq_true rfl) (Nat.le_of_ble_eq_true rfl) (hst := rfl) (fun b55r M56 n57 b55 => ?_)
      obtain ⟨T58, J59, v62, rfl⟩ := b55
      have I60 := I0.call J59 (tm_sub (by decide)) (Or.inl rfl)
      have t63 := J59.up h_o0
      exact mv_lret d_Reckoner_worked_105 rfl ⟨_, I60, _, rfl⟩
  · refine mv_tableIn (tgt := 106) (off := 105) d_Reckoner_worked_1 (by omega) (by omega) (by rw [b1]; rfl) (by decide) ?_
    refine mv_aload_n d_Reckoner_worked_106 rfl rfl ?_
    refine mv_lload_n d_Reckoner_worked_107 rfl rfl ?_
    refine mv_lload d_Reckoner_worked_108 rfl ?_
    refine mv_lneZ (tgt := 118) (a := x2.toInt) (b := x3.toInt) d_Reckoner_worked_110 d_Reckoner_worked_111 (by decide) rfl rfl (fun b64 => ?_) (fun b64 => ?_)
    · refine mv_iconst (v := 0) d_Reckoner_worked_118 (by decide) ?_
      obtain ⟨_, b71, -⟩ := I0.1 _ _ h_o0
      refine mv_callV (kc' := 0) (ks' := 0) (As := [.int 0]) (st9 := [.int 0, .ref o0]) d_Reckoner_worked_119 lV_Reckoner_73 b71 rfl (tc_Reckoner_compared (d := (d + 1)) (x9 := x9) (o0 := o0) (x1 := 0) h_o0 I0.start) rfl (Nat.le_of_ble_eq_true rfl) (Nat.le_of_ble_eq_true rfl) (Nat.le_of_ble_eq_true rfl) (hst := rfl) (fun b65r M66 n67 b65 => ?_)
      obtain ⟨T68, J69, v72, rfl⟩ := b65
      have I70 := I0.call J69 (tm_sub (by decide)) (Or.inl rfl)
      have t73 := J69.up h_o0
      exact mv_lret d_Reckoner_worked_122 rfl ⟨_, I70, _, rfl⟩
    · refine mv_iconst (v := 1) d_Reckoner_worked_114 (by decide) ?_
      refine mv_goto (tgt := 119) d_Reckoner_worked_115 (by decide) ?_
      obtain ⟨_, b80, -⟩ := I0.1 _ _ h_o0
      refine mv_callV (kc' := 0) (ks' := 0) (As := [.int 1]) (st9 := [.int 1, .ref o0]) d_Reckoner_worked_119 lV_Reckoner_73 b80 rfl (tc_Reckoner_compared (d := (d + 1)) (x9 := x9) (o0 := o0) (x1 := 1) h_o0 I0.start) rfl (Nat.le_of_ble_eq_true rfl) (Nat.le_of_ble_eq_true rfl) (Nat.le_of_ble_eq_true rfl) (hst := rfl) (fun b74r M75 n76 b74 => ?_)
      obtain ⟨T77, J78, v81, rfl⟩ := b74
      have I79 := I0.call J78 (tm_sub (by decide)) (Or.inl rfl)
      have t82 := J78.up h_o0
      exact mv_lret d_Reckoner_worked_122 rfl ⟨_, I79, _, rfl⟩
  · refine mv_tableIn (tgt := 128) (off := 127) d_Reckoner_worked_1 (by omega) (by omega) (by rw [b1]; rfl) (by decide) ?_
    refine mv_lload_n d_Reckoner_worked_128 rfl rfl ?_
    refine mv_lload d_Reckoner_worked_129 rfl ?_
    refine mv_lor d_Reckoner_worked_131 ?_
    exact mv_lret d_Reckoner_worked_132 rfl ⟨_, I0, _, rfl⟩
  · refine mv_tableIn (tgt := 123) (off := 122) d_Reckoner_worked_1 (by omega) (by omega) (by rw [b1]; rfl) (by decide) ?_
    refine mv_lload_n d_Reckoner_worked_123 rfl rfl ?_
    refine mv_lload d_Reckoner_worked_124 rfl ?_
    refine mv_land d_Reckoner_worked_126 ?_
    exact mv_lret d_Reckoner_worked_127 rfl ⟨_, I0, _, rfl⟩
