/-! funds that are joined: what the lists of ends hold together -/
theorem tm_lne {T : tm_H} {a b c c1 o o1 : Nat} (ha : T a = some (3, c, o)) (hb : T b = some (3, c1, o1)) (h : o ≠ o1) : a ≠ b := by
  intro e
  subst e
  cases ha.symm.trans hb
  exact h rfl
theorem tm_lnc {T : tm_H} {a b c c1 o o1 : Nat} (ha : T a = some (3, c, o)) (hb : T b = some (3, c1, o1)) (h : Nat.beq c c1 = false) : a ≠ b := by
  intro e
  subst e
  cases ha.symm.trans hb
  rw [Nat.beq_refl] at h
  cases h
theorem tm_at.fnI {M : mj_M} {a c k : Nat} {v w : Int32} (h : tm_at M a c k (.int v)) (h1 : tm_at M a c k (.int w)) : v = w := by
  obtain ⟨fs, e1, e2⟩ := h
  obtain ⟨fs1, e3, e4⟩ := h1
  cases e1.symm.trans e3
  cases e2.symm.trans e4
  rfl
/-- two free funds of the list have together at most 72 ends -/
def tm_D (M : mj_M) (L : Nat) : Prop := ∀ (i j bi bj ei ej : Nat) (si sj : Int32), i ≠ j → tm_ge M L i bi → tm_ge M L j bj → tm_at M bi 6 8 (.int (-1)) → tm_at M bj 6 8 (.int (-1)) → tm_at M bi 6 11 (.ref ei) → tm_at M bj 6 11 (.ref ej) → tm_at M ei 0 2 (.int si) → tm_at M ej 0 2 (.int sj) → si.toInt + sj.toInt ≤ 72
/-- behind a settling: no list of ends and no fund's joinedTo is another, or one free fund is joined to another one -/
def tm_JR (T0 : tm_H) (M0 M : mj_M) (L : Nat) : Prop := ((∀ (a o : Nat) (w : Value), T0 a = some (3, 3, o) → tm_at M0 a 0 2 w → tm_at M a 0 2 w) ∧ (∀ (a : Nat) (w : Value), T0 a = some (0, 6, 0) → tm_at M0 a 6 8 w → tm_at M a 6 8 w)) ∨
  ∃ (i j bi bj ei ej : Nat) (si sj s v : Int32), i ≠ j ∧ tm_ge M0 L i bi ∧ tm_ge M0 L j bj ∧ tm_at M0 bi 6 8 (.int (-1)) ∧ tm_at M0 bj 6 8 (.int (-1)) ∧ tm_at M0 bi 6 11 (.ref ei) ∧ tm_at M0 bj 6 11 (.ref ej) ∧ tm_at M0 ei 0 2 (.int si) ∧ tm_at M0 ej 0 2 (.int sj) ∧ 0 ≤ v.toInt ∧ s.toInt ≤ sj.toInt + si.toInt ∧ tm_at M ej 0 2 (.int s) ∧ tm_at M bi 6 8 (.int v) ∧
    (∀ (a o : Nat) (w : Value), T0 a = some (3, 3, o) → o ≠ bj → tm_at M0 a 0 2 w → tm_at M a 0 2 w) ∧ (∀ (a : Nat) (w : Value), T0 a = some (0, 6, 0) → a ≠ bi → tm_at M0 a 6 8 w → tm_at M a 6 8 w)
/-- behind a founding -/
def tm_FR (T0 : tm_H) (M0 : mj_M) (n0 : Nat) (T : tm_H) (M : mj_M) (L : Nat) : Prop := (∀ (a o : Nat) (w : Value), T0 a = some (3, 3, o) → o < n0 → tm_at M0 a 0 2 w → tm_at M a 0 2 w) ∧ (∀ (a : Nat) (w : Value), T0 a = some (0, 6, 0) → tm_at M0 a 6 8 w → tm_at M a 6 8 w) ∧ (∀ (i b : Nat), tm_ge M0 L i b → tm_ge M L i b) ∧
  ((∀ (w : Value), tm_at M0 L 0 2 w → tm_at M L 0 2 w) ∨ ∃ (b e : Nat) (n s v : Int32), tm_at M0 L 0 2 (.int n) ∧ tm_at M L 0 2 (.int (n + 1)) ∧ tm_ge M L n.toNatClampNeg b ∧ tm_at M b 6 0 (.int v) ∧ 0 ≤ v.toInt ∧ tm_at M b 6 11 (.ref e) ∧ T e = some (3, 3, b) ∧ tm_at M e 0 2 (.int s) ∧ s.toInt ≤ 6)
abbrev kY_Fund_takeOver : mj_Y := (⟨"TrustDesk$Fund", "takeOver", "(LTrustDesk$Fund;)V"⟩, prog_7_method_15_code, 3, (Option.none : Option Jvm.ClassFile.FieldType))
theorem d_Fund_takeOver_0 : decode kY_Fund_takeOver.2.1 0 = .ok (.aload_n 0, 1) := by decide +kernel
theorem d_Fund_takeOver_1 : decode kY_Fund_takeOver.2.1 1 = .ok (.aload_n 1, 1) := by decide +kernel
theorem d_Fund_takeOver_2 : decode kY_Fund_takeOver.2.1 2 = .ok (.getfield 49, 3) := by decide +kernel
theorem d_Fund_takeOver_5 : decode kY_Fund_takeOver.2.1 5 = .ok (.invokevirtual 90, 3) := by decide +kernel
theorem lV_Fund_90 : mj_lV "TrustDesk$Fund" 90 kY_Fund_receive 1 := ⟨⟨(mj_in1 (List.mem_of_getElem? (i := 1144) (by decide +kernel)) rfl), (mj_in1 (List.mem_of_getElem? (i := 21) (by decide +kernel)) rfl), (mj_in1 (List.mem_of_getElem? (i := 868) (by decide +kernel)) rfl), by decide, rfl, by decide⟩, (mj_in1 (List.mem_of_getElem? (i := 866) (by decide +kernel)) rfl), (mj_in1 (List.mem_of_getElem? (i := 867) (by decide +kernel)) rfl)⟩
theorem d_Fund_takeOver_8 : decode kY_Fund_takeOver.2.1 8 = .ok (.aload_n 0, 1) := by decide +kernel
theorem d_Fund_takeOver_9 : decode kY_Fund_takeOver.2.1 9 = .ok (.aload_n 0, 1) := by decide +kernel
theorem d_Fund_takeOver_10 : decode kY_Fund_takeOver.2.1 10 = .ok (.getfield 42, 3) := by decide +kernel
theorem d_Fund_takeOver_13 : decode kY_Fund_takeOver.2.1 13 = .ok (.aload_n 1, 1) := by decide +kernel
theorem d_Fund_takeOver_14 : decode kY_Fund_takeOver.2.1 14 = .ok (.getfield 42, 3) := by decide +kernel
theorem d_Fund_takeOver_17 : decode kY_Fund_takeOver.2.1 17 = .ok (.iadd, 1) := by decide +kernel
theorem d_Fund_takeOver_18 : decode kY_Fund_takeOver.2.1 18 = .ok (.sipush 999, 3) := by decide +kernel
theorem d_Fund_takeOver_21 : decode kY_Fund_takeOver.2.1 21 = .ok (.invokestatic 94, 3) := by decide +kernel
theorem d_Fund_takeOver_24 : decode kY_Fund_takeOver.2.1 24 = .ok (.putfield 42, 3) := by decide +kernel
theorem d_Fund_takeOver_27 : decode kY_Fund_takeOver.2.1 27 = .ok (.aload_n 0, 1) := by decide +kernel
theorem d_Fund_takeOver_28 : decode kY_Fund_takeOver.2.1 28 = .ok (.aload_n 0, 1) := by decide +kernel
theorem d_Fund_takeOver_29 : decode kY_Fund_takeOver.2.1 29 = .ok (.getfield 45, 3) := by decide +kernel
theorem d_Fund_takeOver_32 : decode kY_Fund_takeOver.2.1 32 = .ok (.aload_n 1, 1) := by decide +kernel
theorem d_Fund_takeOver_33 : decode kY_Fund_takeOver.2.1 33 = .ok (.getfield 45, 3) := by decide +kernel
theorem d_Fund_takeOver_36 : decode kY_Fund_takeOver.2.1 36 = .ok (.iadd, 1) := by decide +kernel
theorem d_Fund_takeOver_37 : decode kY_Fund_takeOver.2.1 37 = .ok (.ldc 97, 2) := by decide +kernel
theorem k_Fund_97 : Cond.constant "TrustDesk$Fund" 97 99999 ∈ mj_T := (mj_in1 (List.mem_of_getElem? (i := 1146) (by decide +kernel)) rfl)
theorem d_Fund_takeOver_39 : decode kY_Fund_takeOver.2.1 39 = .ok (.invokestatic 94, 3) := by decide +kernel
theorem d_Fund_takeOver_42 : decode kY_Fund_takeOver.2.1 42 = .ok (.putfield 45, 3) := by decide +kernel
theorem d_Fund_takeOver_45 : decode kY_Fund_takeOver.2.1 45 = .ok (.aload_n 0, 1) := by decide +kernel
theorem d_Fund_takeOver_46 : decode kY_Fund_takeOver.2.1 46 = .ok (.dup, 1) := by decide +kernel
theorem d_Fund_takeOver_47 : decode kY_Fund_takeOver.2.1 47 = .ok (.getfield 98, 3) := by decide +kernel
theorem f_Fund_98_6 : mj_fl "TrustDesk$Fund" 98 6 4 := ⟨kR_Fund, kF_Fund, 15, "TrustDesk$Fund", rfl, kg_6, by decide, (mj_in1 (List.mem_of_getElem? (i := 674) (by decide +kernel)) rfl), Or.inl rfl⟩
theorem d_Fund_takeOver_50 : decode kY_Fund_takeOver.2.1 50 = .ok (.aload_n 1, 1) := by decide +kernel
theorem d_Fund_takeOver_51 : decode kY_Fund_takeOver.2.1 51 = .ok (.getfield 98, 3) := by decide +kernel
theorem d_Fund_takeOver_54 : decode kY_Fund_takeOver.2.1 54 = .ok (.iand, 1) := by decide +kernel
theorem d_Fund_takeOver_55 : decode kY_Fund_takeOver.2.1 55 = .ok (.putfield 98, 3) := by decide +kernel
theorem p_Fund_98_6 : mj_fp "TrustDesk$Fund" 98 6 4 (kt_Fund 4) false := ⟨kR_Fund, kF_Fund, 15, "TrustDesk$Fund", kt_Fund, rfl, kg_6, by decide, (mj_in1 (List.mem_of_getElem? (i := 674) (by decide +kernel)) rfl), Or.inl rfl, kto_Fund, kn_Fund, rfl, rfl, fun h => by cases h⟩
theorem d_Fund_takeOver_58 : decode kY_Fund_takeOver.2.1 58 = .ok (.iconst 0, 1) := by decide +kernel
theorem d_Fund_takeOver_59 : decode kY_Fund_takeOver.2.1 59 = .ok (.istore_n 2, 1) := by decide +kernel
theorem d_Fund_takeOver_60 : decode kY_Fund_takeOver.2.1 60 = .ok (.iload_n 2, 1) := by decide +kernel
theorem d_Fund_takeOver_61 : decode kY_Fund_takeOver.2.1 61 = .ok (.aload_n 1, 1) := by decide +kernel
theorem d_Fund_takeOver_62 : decode kY_Fund_takeOver.2.1 62 = .ok (.getfield 24, 3) := by decide +kernel
theorem d_Fund_takeOver_65 : decode kY_Fund_takeOver.2.1 65 = .ok (.invokevirtual 61, 3) := by decide +kernel
theorem d_Fund_takeOver_68 : decode kY_Fund_takeOver.2.1 68 = .ok (.if_icmp .ge 49, 3) := by decide +kernel
theorem d_Fund_takeOver_117 : decode kY_Fund_takeOver.2.1 117 = .ok (.return_, 1) := by decide +kernel
theorem d_Fund_takeOver_71 : decode kY_Fund_takeOver.2.1 71 = .ok (.aload_n 1, 1) := by decide +kernel
theorem d_Fund_takeOver_72 : decode kY_Fund_takeOver.2.1 72 = .ok (.getfield 24, 3) := by decide +kernel
theorem d_Fund_takeOver_75 : decode kY_Fund_takeOver.2.1 75 = .ok (.iload_n 2, 1) := by decide +kernel
theorem d_Fund_takeOver_76 : decode kY_Fund_takeOver.2.1 76 = .ok (.invokevirtual 65, 3) := by decide +kernel
theorem d_Fund_takeOver_79 : decode kY_Fund_takeOver.2.1 79 = .ok (.checkcast 69, 3) := by decide +kernel
theorem d_Fund_takeOver_82 : decode kY_Fund_takeOver.2.1 82 = .ok (.getfield 80, 3) := by decide +kernel
theorem d_Fund_takeOver_85 : decode kY_Fund_takeOver.2.1 85 = .ok (.iconst 2, 1) := by decide +kernel
theorem d_Fund_takeOver_86 : decode kY_Fund_takeOver.2.1 86 = .ok (.if_icmp .eq 25, 3) := by decide +kernel
theorem d_Fund_takeOver_111 : decode kY_Fund_takeOver.2.1 111 = .ok (.iinc 2 1, 3) := by decide +kernel
theorem d_Fund_takeOver_114 : decode kY_Fund_takeOver.2.1 114 = .ok (.goto (-54), 3) := by decide +kernel
theorem d_Fund_takeOver_89 : decode kY_Fund_takeOver.2.1 89 = .ok (.aload_n 0, 1) := by decide +kernel
theorem d_Fund_takeOver_90 : decode kY_Fund_takeOver.2.1 90 = .ok (.getfield 24, 3) := by decide +kernel
theorem d_Fund_takeOver_93 : decode kY_Fund_takeOver.2.1 93 = .ok (.aload_n 1, 1) := by decide +kernel
theorem d_Fund_takeOver_94 : decode kY_Fund_takeOver.2.1 94 = .ok (.getfield 24, 3) := by decide +kernel
theorem d_Fund_takeOver_97 : decode kY_Fund_takeOver.2.1 97 = .ok (.iload_n 2, 1) := by decide +kernel
theorem d_Fund_takeOver_98 : decode kY_Fund_takeOver.2.1 98 = .ok (.invokevirtual 65, 3) := by decide +kernel
theorem d_Fund_takeOver_101 : decode kY_Fund_takeOver.2.1 101 = .ok (.checkcast 69, 3) := by decide +kernel
theorem d_Fund_takeOver_104 : decode kY_Fund_takeOver.2.1 104 = .ok (.invokevirtual 101, 3) := by decide +kernel
theorem lV_Fund_101 : mj_lV "TrustDesk$Fund" 101 kY_End_copy 0 := ⟨⟨(mj_in1 (List.mem_of_getElem? (i := 1147) (by decide +kernel)) rfl), (mj_in1 (List.mem_of_getElem? (i := 23) (by decide +kernel)) rfl), (mj_in1 (List.mem_of_getElem? (i := 1150) (by decide +kernel)) rfl), by decide, rfl, by decide⟩, (mj_in1 (List.mem_of_getElem? (i := 1148) (by decide +kernel)) rfl), (mj_in1 (List.mem_of_getElem? (i := 1149) (by decide +kernel)) rfl)⟩
theorem d_Fund_takeOver_107 : decode kY_Fund_takeOver.2.1 107 = .ok (.invokevirtual 105, 3) := by decide +kernel
theorem lV_Fund_105 : mj_lV "TrustDesk$Fund" 105 kY_ArrayList_add_0 1 := ⟨⟨(mj_in1 (List.mem_of_getElem? (i := 1153) (by decide +kernel)) rfl), (mj_in1 (List.mem_of_getElem? (i := 9) (by decide +kernel)) rfl), (mj_in1 (List.mem_of_getElem? (i := 562) (by decide +kernel)) rfl), by decide, rfl, by decide⟩, (mj_in1 (List.mem_of_getElem? (i := 560) (by decide +kernel)) rfl), (mj_in1 (List.mem_of_getElem? (i := 561) (by decide +kernel)) rfl)⟩
theorem d_Fund_takeOver_110 : decode kY_Fund_takeOver.2.1 110 = .ok (.pop, 1) := by decide +kernel
def w_Fund_takeOver_x : List Nat := [301, 302, 303, 601, 602, 603, 604, 5003]
theorem tc_Fund_takeOver_x {g : mj_G} {l : Launch} {d : Nat} {T0 : tm_H} {M0 : mj_M} {n0 x9 : Nat} {o0 : Nat} {o1 : Nat} (h_o0 : T0 o0 = some (0, 6, 0)) (h_o1 : T0 o1 = some (0, 6, 0)) {e0 e1 : Nat} {s0 s1 : Int32} (hne : o0 ≠ o1) (h_e0 : T0 e0 = some (3, 3, o0)) (h_e1 : T0 e1 = some (3, 3, o1)) (yq0 : tm_at M0 o0 6 11 (.ref e0)) (yq1 : tm_at M0 o1 6 11 (.ref e1)) (yz0 : tm_at M0 e0 0 2 (.int s0)) (yz1 : tm_at M0 e1 0 2 (.int s1)) (hs : s0.toInt + s1.toInt ≤ 72) (I0 : tm_I tm_FT (tm_in w_Fund_takeOver_x) x9 T0 M0 n0 T0 M0 n0) : mj_Met g l kY_Fund_takeOver (d + 7) [.ref o0, .ref o1] M0 n0 146 11534 (tm_Q tm_FT (tm_in w_Fund_takeOver_x) x9 T0 M0 n0 (fun r _ M => r = none ∧ (∃ s : Int32, tm_at M e0 0 2 (.int s) ∧ s.toInt ≤ s0.toInt + s1.toInt) ∧ (∀ (a o : Nat) (w : Value), T0 a = some (3, 3, o) → o ≠ o0 → tm_at M0 a 0 2 w → tm_at M a 0 2 w))) := by
  refine mj_enter (by decide) (Nat.le_of_ble_eq_true rfl) ?_
  obtain ⟨_, _, _, _, zz0⟩ := tm_lsn I0 h_e0 yz0
  have yp0 := zz0.2.1
  obtain ⟨_, _, _, _, zz1⟩ := tm_lsn I0 h_e1 yz1
  have yp1 := zz1.2.1
  have K0L : ∀ (a o : Nat) (w : Value), T0 a = some (3, 3, o) → o ≠ o0 → tm_at M0 a 0 2 w → tm_at M0 a 0 2 w := fun a o w h hx q => q
  refine mv_aload_n d_Fund_takeOver_0 rfl rfl ?_
  refine mv_aload_n d_Fund_takeOver_1 rfl rfl ?_
  obtain ⟨v2, q1⟩ := tm_atL I0 h_o1 (k := 3) rfl
  refine tr_getK q1 d_Fund_takeOver_2 f_Fund_49_6 ?_
  obtain ⟨_, b9, -⟩ := I0.1 _ _ h_o0
  refine mv_callV (kc' := 146) (ks' := 11534) (As := [.long v2]) (st9 := [.long v2, .ref o0]) d_Fund_takeOver_5 lV_Fund_90 b9 rfl (tc_Fund_receive (d := (d + 5)) (x9 := x9) (o0 := o0) (x1 := v2) h_o0 I0.start) rfl (Nat.le_of_ble_eq_true rfl) (Nat.le_of_ble_eq_true rfl) (Nat.le_of_ble_eq_true rfl) (hst := rfl) (fun b3r M4 n5 b3 => ?_)
  obtain ⟨T6, J7, rfl⟩ := b3
  have I8 := I0.call J7 (tm_sub (by decide)) (Or.inl rfl)
  have t10 := J7.up h_o0
  have t11 := J7.up h_o1
  have K12 : ∀ (a o : Nat) (w : Value), T0 a = some (3, 3, o) → o ≠ o0 → tm_at M0 a 0 2 w → tm_at M4 a 0 2 w := fun a o w h hx q => J7.keepL (I0.up h) (by decide) (K0L a o w h hx q)
  have q13 := J7.keep h_o0 (by decide) yq0
  have t14 := J7.up h_e0
  have q15 := J7.keepL h_e0 (by decide) yz0
  have q16 := J7.keep h_o1 (by decide) yq1
  have t17 := J7.up h_e1
  have q18 := J7.keepL h_e1 (by decide) yz1
  refine mv_aload_n d_Fund_takeOver_8 rfl rfl ?_
  refine mv_aload_n d_Fund_takeOver_9 rfl rfl ?_
  obtain ⟨v20, q19⟩ := tm_atI I8 t10 (k := 1) rfl
  refine tr_getK q19 d_Fund_takeOver_10 f_Fund_42_6 ?_
  refine mv_aload_n d_Fund_takeOver_13 rfl rfl ?_
  obtain ⟨v22, q21⟩ := tm_atI I8 t11 (k := 1) rfl
  refine tr_getK q21 d_Fund_takeOver_14 f_Fund_42_6 ?_
  refine mv_iadd d_Fund_takeOver_17 ?_
  refine mv_sipush (v := 999) d_Fund_takeOver_18 (by decide) ?_
  obtain ⟨v23, b24, _, _, _⟩ := mz_min9 (v20 + v22) 999
  have : (999 : Int32).toInt = 999 := by decide
  refine mv_mmin (v := v23) d_Fund_takeOver_21 (mj_in1 (List.mem_of_getElem? (i := 1145) (by decide +kernel)) rfl) (Nat.le_of_ble_eq_true rfl) b24 ?_
  refine tr_putKM tm_okF I8 t10 (k := 1) rfl ⟨_, rfl⟩ (Or.inl (by decide)) d_Fund_takeOver_24 p_Fund_42_6 rfl rfl (fun M25 I26 q27 K28 K28M => ?_)
  have K29 : ∀ (a o : Nat) (w : Value), T0 a = some (3, 3, o) → o ≠ o0 → tm_at M0 a 0 2 w → tm_at M25 a 0 2 w := fun a o w h hx q => K28 _ 0 2 _ rfl (K12 a o w h hx q)
  refine mv_aload_n d_Fund_takeOver_27 rfl rfl ?_
  refine mv_aload_n d_Fund_takeOver_28 rfl rfl ?_
  obtain ⟨v31, q30⟩ := tm_atI I26 t10 (k := 2) rfl
  refine tr_getK q30 d_Fund_takeOver_29 f_Fund_45_6 ?_
  refine mv_aload_n d_Fund_takeOver_32 rfl rfl ?_
  obtain ⟨v33, q32⟩ := tm_atI I26 t11 (k := 2) rfl
  refine tr_getK q32 d_Fund_takeOver_33 f_Fund_45_6 ?_
  refine mv_iadd d_Fund_takeOver_36 ?_
  refine mv_ldc d_Fund_takeOver_37 k_Fund_97 ?_
  obtain ⟨v34, b35, _, _, _⟩ := mz_min9 (v31 + v33) 99999
  have : (99999 : Int32).toInt = 99999 := by decide
  refine mv_mmin (v := v34) d_Fund_takeOver_39 (mj_in1 (List.mem_of_getElem? (i := 1145) (by decide +kernel)) rfl) (Nat.le_of_ble_eq_true rfl) b35 ?_
  refine tr_putKM tm_okF I26 t10 (k := 2) rfl ⟨_, rfl⟩ (Or.inl (by decide)) d_Fund_takeOver_42 p_Fund_45_6 rfl rfl (fun M36 I37 q38 K39 K39M => ?_)
  have K40 : ∀ (a o : Nat) (w : Value), T0 a = some (3, 3, o) → o ≠ o0 → tm_at M0 a 0 2 w → tm_at M36 a 0 2 w := fun a o w h hx q => K39 _ 0 2 _ rfl (K29 a o w h hx q)
  refine mv_aload_n d_Fund_takeOver_45 rfl rfl ?_
  refine mv_dup d_Fund_takeOver_46 rfl ?_
  obtain ⟨v42, q41⟩ := tm_atI I37 t10 (k := 4) rfl
  refine tr_getK q41 d_Fund_takeOver_47 f_Fund_98_6 ?_
  refine mv_aload_n d_Fund_takeOver_50 rfl rfl ?_
  obtain ⟨v44, q43⟩ := tm_atI I37 t11 (k := 4) rfl
  refine tr_getK q43 d_Fund_takeOver_51 f_Fund_98_6 ?_
  refine mv_iand d_Fund_takeOver_54 ?_
  refine tr_putKM tm_okF I37 t10 (k := 4) rfl ⟨_, rfl⟩ (Or.inl (by decide)) d_Fund_takeOver_55 p_Fund_98_6 rfl rfl (fun M45 I46 q47 K48 K48M => ?_)
  have K49 : ∀ (a o : Nat) (w : Value), T0 a = some (3, 3, o) → o ≠ o0 → tm_at M0 a 0 2 w → tm_at M45 a 0 2 w := fun a o w h hx q => K48 _ 0 2 _ rfl (K40 a o w h hx q)
  refine mv_iconst (v := 0) d_Fund_takeOver_58 (by decide) ?_
  refine mv_istore_n (lv' := [(2, .int 0), (0, .ref o0), (1, .ref o1)]) d_Fund_takeOver_59 rfl (by decide) rfl ?_
  have L60_50 : ∀ (k : Nat) (i2_50 : Int32) (g0_50 : Int32) (T_50 : tm_H) (M_50 : mj_M) (n_50 : Nat), tm_I tm_FT (tm_in w_Fund_takeOver_x) x9 T0 M0 n0 T_50 M_50 n_50 → T_50 o0 = some (0, 6, 0) → T_50 o1 = some (0, 6, 0) → T_50 e0 = some (3, 3, o0) → T_50 e1 = some (3, 3, o1) → 0 ≤ i2_50.toInt → i2_50.toInt ≤ s1.toInt → g0_50.toInt ≤ s0.toInt + i2_50.toInt → tm_at M_50 o0 6 11 (.ref e0) → tm_at M_50 o1 6 11 (.ref e1) → tm_at M_50 e1 0 2 (.int s1) → tm_at M_50 e0 0 2 (.int g0_50) → (∀ (a o : Nat) (w : Value), T0 a = some (3, 3, o) → o ≠ o0 → tm_at M0 a 0 2 w → tm_at M_50 a 0 2 w) → 72 - i2_50.toInt < (k : Int) → mj_V g l kY_Fund_takeOver (d + 7) 60 [(2, .int i2_50), (0, .ref o0), (1, .ref o1)] [] M_50 n_50 (k * 2) (k * 158) (tm_Q tm_FT (tm_in w_Fund_takeOver_x) x9 T0 M0 n0 (fun r _ M => r = none ∧ (∃ s : Int32, tm_at M e0 0 2 (.int s) ∧ s.toInt ≤ s0.toInt + s1.toInt) ∧ (∀ (a o : Nat) (w : Value), T0 a = some (3, 3, o) → o ≠ o0 → tm_at M0 a 0 2 w → tm_at M a 0 2 w))) := by
    intro k50
    induction k50 with
    | zero =>
      intro i2_50 g0_50 T_50 M_50 n_50 I_50 h_q0_50 h_q1_50 h_e0_50 h_e1_50 iv0_50 iv1_50 iv2_50 kp0_50 kp1_50 kp2_50 kg0_50 kKL_50 hk50
      have := mz_hi i2_50
      exfalso; omega
    | succ k50 ih50 =>
      intro i2_50 g0_50 T_50 M_50 n_50 I_50 h_q0_50 h_q1_50 h_e0_50 h_e1_50 iv0_50 iv1_50 iv2_50 kp0_50 kp1_50 kp2_50 kg0_50 kKL_50 hk50
      refine mv_iload_n d_Fund_takeOver_60 rfl rfl ?_
      refine mv_aload_n d_Fund_takeOver_61 rfl rfl ?_
      refine tr_getK (k := 11) kp1_50 d_Fund_takeOver_62 f_Fund_24_6 ?_
      obtain ⟨m52, e53, N54, f55, h51⟩ := tm_lsn I_50 h_e1_50 kp2_50
      refine mv_callV_s (kc' := (k50 * 2 + 2)) (ks' := (k50 * 158 + 158)) [] [.ref e1, .int i2_50] d_Fund_takeOver_65 lV_Fund_61 h51.1 rfl (tc_L_size (d := (d + 6)) h51.1) rfl (by first | exact Nat.le_of_ble_eq_true rfl | omega) (by first | exact Nat.le_of_ble_eq_true rfl | omega) (by first | exact Nat.le_of_ble_eq_true rfl | omega) rfl ?_
      have := mz_hi i2_50
      have := mz_hi s1
      refine mv_icmp_geZ (tgt := 117) (a := i2_50.toInt) (b := s1.toInt) d_Fund_takeOver_68 (by decide) rfl rfl (fun b56 => ?_) (fun b56 => ?_)
      · exact mv_vret d_Fund_takeOver_117 rfl ⟨_, I_50, rfl, ⟨_, kg0_50, by omega⟩, kKL_50⟩
      · refine mv_aload_n d_Fund_takeOver_71 rfl rfl ?_
        refine tr_getK (k := 11) kp1_50 d_Fund_takeOver_72 f_Fund_24_6 ?_
        refine mv_iload_n d_Fund_takeOver_75 rfl rfl ?_
        obtain ⟨m58, e59, N60, f61, h57⟩ := tm_lsn I_50 h_e1_50 kp2_50
        obtain ⟨u62e, u62i, a63, u62f, u62t⟩ := tm_el (i := i2_50) h57 (by omega) (by omega)
        have t_a63 : T_50 a63 = some (0, 3, 0) := u62t
        refine mv_callV_s (kc' := (k50 * 2 + 2)) (ks' := (k50 * 158 + 158)) [.int i2_50] [.int i2_50, .ref e1] d_Fund_takeOver_76 lV_Fund_65 h57.1 rfl (tc_L_get (d := (d + 4)) h57.1 u62e (by omega) (by omega) u62i u62f) rfl (by first | exact Nat.le_of_ble_eq_true rfl | omega) (by first | exact Nat.le_of_ble_eq_true rfl | omega) (by first | exact Nat.le_of_ble_eq_true rfl | omega) rfl ?_
        obtain ⟨_, b64, -⟩ := I_50.1 _ _ t_a63
        refine mv_castS (T9 := kF_End) (N := 4) d_Fund_takeOver_79 (mj_in1 (List.mem_of_getElem? (i := 751) (by decide +kernel)) rfl) b64 rfl ?_
        obtain ⟨v66, q65⟩ := tm_atI I_50 t_a63 (k := 1) rfl
        refine tr_getK q65 d_Fund_takeOver_82 f_Fund_80_3 ?_
        refine mv_iconst (v := 2) d_Fund_takeOver_85 (by decide) ?_
        have := mz_hi v66
        refine mv_icmp_eqZ (tgt := 111) (a := v66.toInt) (b := 2) d_Fund_takeOver_86 (by decide) rfl (by decide) (fun b67 => ?_) (fun b67 => ?_)
        · refine mv_iinc (v := (i2_50 + 1)) (lv' := [(2, .int (i2_50 + 1)), (0, .ref o0), (1, .ref o1)]) d_Fund_takeOver_111 rfl rfl (by decide) rfl ?_
          refine mv_goto (tgt := 60) d_Fund_takeOver_114 (by decide) ?_
          have b68 : (i2_50 + 1).toInt = i2_50.toInt + 1 := mz_addn 1 1 (by decide) (by have := mz_lo i2_50; omega) (by have := mz_hi i2_50; omega)
          exact mv_less (by omega) (by omega) (ih50 (i2_50 + 1) g0_50 T_50 M_50 n_50 I_50 h_q0_50 h_q1_50 h_e0_50 h_e1_50 (by first | omega | decide) (by first | omega | decide) (by first | omega | decide) kp0_50 kp1_50 kp2_50 kg0_50 kKL_50 (by omega))
        · refine mv_aload_n d_Fund_takeOver_89 rfl rfl ?_
          refine tr_getK (k := 11) kp0_50 d_Fund_takeOver_90 f_Fund_24_6 ?_
          refine mv_aload_n d_Fund_takeOver_93 rfl rfl ?_
          refine tr_getK (k := 11) kp1_50 d_Fund_takeOver_94 f_Fund_24_6 ?_
          refine mv_iload_n d_Fund_takeOver_97 rfl rfl ?_
          obtain ⟨m70, e71, N72, f73, h69⟩ := tm_lsn I_50 h_e1_50 kp2_50
          obtain ⟨u74e, u74i, a75, u74f, u74t⟩ := tm_el (i := i2_50) h69 (by omega) (by omega)
          have t_a75 : T_50 a75 = some (0, 3, 0) := u74t
          refine mv_callV_s (kc' := (k50 * 2 + 2)) (ks' := (k50 * 158 + 158)) [.int i2_50] [.int i2_50, .ref e1, .ref e0] d_Fund_takeOver_98 lV_Fund_65 h69.1 rfl (tc_L_get (d := (d + 4)) h69.1 u74e (by omega) (by omega) u74i u74f) rfl (by first | exact Nat.le_of_ble_eq_true rfl | omega) (by first | exact Nat.le_of_ble_eq_true rfl | omega) (by first | exact Nat.le_of_ble_eq_true rfl | omega) rfl ?_
          obtain ⟨_, b76, -⟩ := I_50.1 _ _ t_a75
          refine mv_castS (T9 := kF_End) (N := 4) d_Fund_takeOver_101 (mj_in1 (List.mem_of_getElem? (i := 751) (by decide +kernel)) rfl) b76 rfl ?_
          obtain ⟨_, b83, -⟩ := I_50.1 _ _ t_a75
          refine mv_callV (kc' := (k50 * 2 + 1)) (ks' := (k50 * 158 + 154)) (As := []) (st9 := [.ref a75, .ref e0]) d_Fund_takeOver_104 lV_Fund_101 b83 rfl (tc_End_copy (d := (d + 4)) (x9 := x9) (o0 := a75) t_a75 I_50.start) rfl (by first | exact Nat.le_of_ble_eq_true rfl | omega) (by first | exact Nat.le_of_ble_eq_true rfl | omega) (by first | exact Nat.le_of_ble_eq_true rfl | omega) (hst := rfl) (fun b77r M78 n79 b77 => ?_)
          obtain ⟨T80, J81, a84, rfl, t_a84⟩ := b77
          have I82 := I_50.call J81 (tm_sub (by decide)) (Or.inl rfl)
          have t85 := J81.up h_q0_50
          have t86 := J81.up h_q1_50
          have t87 := J81.up h_e0_50
          have K88 : ∀ (a o : Nat) (w : Value), T0 a = some (3, 3, o) → o ≠ o0 → tm_at M0 a 0 2 w → tm_at M78 a 0 2 w := fun a o w h hx q => J81.keepL (I_50.up h) (by decide) (kKL_50 a o w h hx q)
          have q89 := J81.keep h_q0_50 (by decide) kp0_50
          have q90 := J81.keep h_q1_50 (by decide) kp1_50
          have t91 := J81.up h_e1_50
          have q92 := J81.keepL h_e1_50 (by decide) kp2_50
          have q93 := J81.keepL h_e0_50 (by decide) kg0_50
          have : tm_mx 3 = 72 := rfl
          obtain ⟨m95, e96, N97, f98, h94⟩ := tm_lsn I82 t87 q93
          refine mv_callV (kc' := (k50 * 2 + 0)) (ks' := (k50 * 158 + 0)) (As := [.ref a84]) (st9 := [.ref a84, .ref e0]) d_Fund_takeOver_107 lV_Fund_105 h94.1 rfl (tc_AL_addK (FT := tm_FT) (W := tm_in [5003]) (x := x9) (d := d) tm_okF t87 t_a84 q93 (show _ < (72 : Int) by omega) rfl (C := "TrustDesk$End") (T9 := kF_End) (N9 := 4) rfl (mj_in1 (List.mem_of_getElem? (i := 2106) (by decide +kernel)) rfl) (by decide) (by decide) I82.start) rfl (by first | exact Nat.le_of_ble_eq_true rfl | omega) (by first | exact Nat.le_of_ble_eq_true rfl | omega) (by first | exact Nat.le_of_ble_eq_true rfl | omega) (hst := rfl) (fun b99r M100 n101 b99 => ?_)
          obtain ⟨T102, J103, rfl, q105, K106, K107, g108⟩ := b99
          have I104 := I82.call J103 (tm_sub (by decide)) (Or.inl rfl)
          have t109 := J103.up t87
          have t110 := J103.up t85
          have t111 := J103.up t86
          have q112 := J103.keep t85 (by decide) q89
          have q113 := J103.keep t86 (by decide) q90
          have t114 := J103.up t91
          have t115 := J103.up t91
          have q116 := tm_at.eq (K106 _ _ _ (tm_lne t91 t87 (Ne.symm hne)) t91) q92
          have K117 : ∀ (a o : Nat) (w : Value), T0 a = some (3, 3, o) → o ≠ o0 → tm_at M0 a 0 2 w → tm_at M100 a 0 2 w := fun a o w h hx q => tm_at.eq (K106 _ _ _ (tm_lne (I82.up h) t87 hx) (I82.up h)) (K88 a o w h hx q)
          have b118 : (g0_50 + 1).toInt = g0_50.toInt + 1 := mz_addn 1 1 (by decide) (by have := mz_lo g0_50; omega) (by omega)
          refine mv_pop d_Fund_takeOver_110 rfl ?_
          refine mv_iinc (v := (i2_50 + 1)) (lv' := [(2, .int (i2_50 + 1)), (0, .ref o0), (1, .ref o1)]) d_Fund_takeOver_111 rfl rfl (by decide) rfl ?_
          refine mv_goto (tgt := 60) d_Fund_takeOver_114 (by decide) ?_
          have b119 : (i2_50 + 1).toInt = i2_50.toInt + 1 := mz_addn 1 1 (by decide) (by have := mz_lo i2_50; omega) (by have := mz_hi i2_50; omega)
          exact mv_less (by omega) (by omega) (ih50 (i2_50 + 1) (g0_50 + 1) T102 M100 n101 I104 t110 t111 t109 t115 (by first | omega | decide) (by first | omega | decide) (by first | omega | decide) q112 q113 q116 q105 K117 (by omega))
  have : (0 : Int32).toInt = 0 := by decide
  exact mv_less (Nat.le_of_ble_eq_true rfl) (Nat.le_of_ble_eq_true rfl) (L60_50 73 0 s0 T6 M45 n5 I46 t10 t11 t14 t17 (by first | omega | decide) (by first | omega | decide) (by first | omega | decide) (K48 _ 6 11 _ rfl (K39 _ 6 11 _ rfl (K28 _ 6 11 _ rfl q13))) (K48 _ 6 11 _ rfl (K39 _ 6 11 _ rfl (K28 _ 6 11 _ rfl q16))) (K48 _ 0 2 _ rfl (K39 _ 0 2 _ rfl (K28 _ 0 2 _ rfl q18))) (K48 _ 0 2 _ rfl (K39 _ 0 2 _ rfl (K28 _ 0 2 _ rfl q15))) K49 (by show (72 - (0 : Int) : Int) < _; decide))
def w_Fund_giveUp_x : List Nat := [301, 601, 602, 603, 607, 608, 663]
theorem tc_Fund_giveUp_x {g : mj_G} {l : Launch} {d : Nat} {T0 : tm_H} {M0 : mj_M} {n0 x9 : Nat} {o0 : Nat} {x1 : Int32} (h_o0 : T0 o0 = some (0, 6, 0))  (I0 : tm_I tm_FT (tm_in w_Fund_giveUp_x) x9 T0 M0 n0 T0 M0 n0) : mj_Met g l kY_Fund_giveUp (d + 3) [.ref o0, .int x1] M0 n0 0 0 (tm_Q tm_FT (tm_in w_Fund_giveUp_x) x9 T0 M0 n0 (fun r _ M => r = none ∧ tm_at M o0 6 8 (.int x1) ∧ (∀ (a : Nat) (w : Value), T0 a = some (0, 6, 0) → a ≠ o0 → tm_at M0 a 6 8 w → tm_at M a 6 8 w))) := by
  refine mj_enter (by decide) (Nat.le_of_ble_eq_true rfl) ?_
  have K0J : ∀ (a : Nat) (w : Value), T0 a = some (0, 6, 0) → a ≠ o0 → tm_at M0 a 6 8 w → tm_at M0 a 6 8 w := fun a w h hx q => q
  refine mv_aload_n d_Fund_giveUp_0 rfl rfl ?_
  refine mv_iload_n d_Fund_giveUp_1 rfl rfl ?_
  refine tr_putKM tm_okF I0 h_o0 (k := 8) rfl ⟨_, rfl⟩ (Or.inl (by decide)) d_Fund_giveUp_2 p_Fund_18_6 rfl rfl (fun M1 I2 q3 K4 K4M => ?_)
  have K5 : ∀ (a : Nat) (w : Value), T0 a = some (0, 6, 0) → a ≠ o0 → tm_at M0 a 6 8 w → tm_at M1 a 6 8 w := fun a w h hx q => tm_at.eq (K4M _ hx) (K0J a w h hx q)
  refine mv_aload_n d_Fund_giveUp_5 rfl rfl ?_
  refine mv_lconst (v := 0) d_Fund_giveUp_6 (by decide) ?_
  refine tr_putKM tm_okF I2 h_o0 (k := 3) rfl ⟨_, rfl⟩ (Or.inl (by decide)) d_Fund_giveUp_7 p_Fund_49_6 rfl rfl (fun M6 I7 q8 K9 K9M => ?_)
  have K10 : ∀ (a : Nat) (w : Value), T0 a = some (0, 6, 0) → a ≠ o0 → tm_at M0 a 6 8 w → tm_at M6 a 6 8 w := fun a w h hx q => K9 _ 6 8 _ rfl (K5 a w h hx q)
  refine mv_aload_n d_Fund_giveUp_10 rfl rfl ?_
  refine mv_iconst (v := 0) d_Fund_giveUp_11 (by decide) ?_
  refine tr_putKM tm_okF I7 h_o0 (k := 1) rfl ⟨_, rfl⟩ (Or.inl (by decide)) d_Fund_giveUp_12 p_Fund_42_6 rfl rfl (fun M11 I12 q13 K14 K14M => ?_)
  have K15 : ∀ (a : Nat) (w : Value), T0 a = some (0, 6, 0) → a ≠ o0 → tm_at M0 a 6 8 w → tm_at M11 a 6 8 w := fun a w h hx q => K14 _ 6 8 _ rfl (K10 a w h hx q)
  refine mv_aload_n d_Fund_giveUp_15 rfl rfl ?_
  refine mv_iconst (v := 0) d_Fund_giveUp_16 (by decide) ?_
  refine tr_putKM tm_okF I12 h_o0 (k := 2) rfl ⟨_, rfl⟩ (Or.inl (by decide)) d_Fund_giveUp_17 p_Fund_45_6 rfl rfl (fun M16 I17 q18 K19 K19M => ?_)
  have K20 : ∀ (a : Nat) (w : Value), T0 a = some (0, 6, 0) → a ≠ o0 → tm_at M0 a 6 8 w → tm_at M16 a 6 8 w := fun a w h hx q => K19 _ 6 8 _ rfl (K15 a w h hx q)
  refine mv_aload_n d_Fund_giveUp_20 rfl rfl ?_
  refine mv_iconst (v := 0) d_Fund_giveUp_21 (by decide) ?_
  refine tr_putKM tm_okF I17 h_o0 (k := 7) rfl ⟨_, rfl⟩ (Or.inl (by decide)) d_Fund_giveUp_22 p_Fund_87_6 rfl rfl (fun M21 I22 q23 K24 K24M => ?_)
  have K25 : ∀ (a : Nat) (w : Value), T0 a = some (0, 6, 0) → a ≠ o0 → tm_at M0 a 6 8 w → tm_at M21 a 6 8 w := fun a w h hx q => K24 _ 6 8 _ rfl (K20 a w h hx q)
  refine mv_iconst (v := 0) d_Fund_giveUp_25 (by decide) ?_
  refine mv_istore_n (lv' := [(2, .int 0), (0, .ref o0), (1, .int x1)]) d_Fund_giveUp_26 rfl (by decide) rfl ?_
  have L27_26 : ∀ (k : Nat) (i2_26 : Int32) (T_26 : tm_H) (M_26 : mj_M) (n_26 : Nat), tm_I tm_FT (tm_in w_Fund_giveUp_x) x9 T0 M0 n0 T_26 M_26 n_26 → T_26 o0 = some (0, 6, 0) → 0 ≤ i2_26.toInt → tm_at M_26 o0 6 8 (.int x1) → (∀ (a : Nat) (w : Value), T0 a = some (0, 6, 0) → a ≠ o0 → tm_at M0 a 6 8 w → tm_at M_26 a 6 8 w) → 2147483647 - i2_26.toInt < (k : Int) → mj_V g l kY_Fund_giveUp (d + 3) 27 [(2, .int i2_26), (0, .ref o0), (1, .int x1)] [] M_26 n_26 0 0 (tm_Q tm_FT (tm_in w_Fund_giveUp_x) x9 T0 M0 n0 (fun r _ M => r = none ∧ tm_at M o0 6 8 (.int x1) ∧ (∀ (a : Nat) (w : Value), T0 a = some (0, 6, 0) → a ≠ o0 → tm_at M0 a 6 8 w → tm_at M a 6 8 w))) := by
    intro k26
    induction k26 with
    | zero =>
      intro i2_26 T_26 M_26 n_26 I_26 h_q0_26 iv0_26 kp0_26 kKJ_26 hk26
      have := mz_hi i2_26
      omega
    | succ k26 ih26 =>
      intro i2_26 T_26 M_26 n_26 I_26 h_q0_26 iv0_26 kp0_26 kKJ_26 hk26
      refine mv_iload_n d_Fund_giveUp_27 rfl rfl ?_
      refine mv_bipush (v := 100) d_Fund_giveUp_28 (by decide) ?_
      have := mz_hi i2_26
      refine mv_icmp_geZ (tgt := 46) (a := i2_26.toInt) (b := 100) d_Fund_giveUp_30 (by decide) rfl (by decide) (fun b27 => ?_) (fun b27 => ?_)
      · refine mv_iconst (v := 0) d_Fund_giveUp_46 (by decide) ?_
        refine mv_istore_n (lv' := [(2, .int 0), (0, .ref o0), (1, .int x1)]) d_Fund_giveUp_47 rfl (by decide) rfl ?_
        have L48_28 : ∀ (k : Nat) (i2_28 : Int32) (T_28 : tm_H) (M_28 : mj_M) (n_28 : Nat), tm_I tm_FT (tm_in w_Fund_giveUp_x) x9 T0 M0 n0 T_28 M_28 n_28 → T_28 o0 = some (0, 6, 0) → 0 ≤ i2_28.toInt → tm_at M_28 o0 6 8 (.int x1) → (∀ (a : Nat) (w : Value), T0 a = some (0, 6, 0) → a ≠ o0 → tm_at M0 a 6 8 w → tm_at M_28 a 6 8 w) → 2147483647 - i2_28.toInt < (k : Int) → mj_V g l kY_Fund_giveUp (d + 3) 48 [(2, .int i2_28), (0, .ref o0), (1, .int x1)] [] M_28 n_28 0 0 (tm_Q tm_FT (tm_in w_Fund_giveUp_x) x9 T0 M0 n0 (fun r _ M => r = none ∧ tm_at M o0 6 8 (.int x1) ∧ (∀ (a : Nat) (w : Value), T0 a = some (0, 6, 0) → a ≠ o0 → tm_at M0 a 6 8 w → tm_at M a 6 8 w))) := by
          intro k28
          induction k28 with
          | zero =>
            intro i2_28 T_28 M_28 n_28 I_28 h_q0_28 iv0_28 kp0_28 kKJ_28 hk28
            have := mz_hi i2_28
            omega
          | succ k28 ih28 =>
            intro i2_28 T_28 M_28 n_28 I_28 h_q0_28 iv0_28 kp0_28 kKJ_28 hk28
            refine mv_iload_n d_Fund_giveUp_48 rfl rfl ?_
            refine mv_aload_n d_Fund_giveUp_49 rfl rfl ?_
            obtain ⟨a30, q29, t_a30⟩ := tm_atO I_28 h_q0_28 (k := 11) rfl
            refine tr_getK q29 d_Fund_giveUp_50 f_Fund_24_6 ?_
            obtain ⟨m32, n36, e33, N34, f35, h31⟩ := I_28.1 _ _ t_a30
            have := h31.2.1
            have : n36.toInt ≤ 72 := h31.2.2.1
            have q37 : tm_at M_28 a30 0 2 (.int n36) := ⟨_, h31.1, rfl⟩
            refine mv_callV_s (kc' := 0) (ks' := 0) [] [.ref a30, .int i2_28] d_Fund_giveUp_53 lV_Fund_61 h31.1 rfl (tc_L_size (d := (d + 2)) h31.1) rfl (Nat.le_of_ble_eq_true rfl) (Nat.le_of_ble_eq_true rfl) (Nat.le_of_ble_eq_true rfl) rfl ?_
            have := mz_hi i2_28
            have := mz_hi n36
            refine mv_icmp_geZ (tgt := 80) (a := i2_28.toInt) (b := n36.toInt) d_Fund_giveUp_56 (by decide) rfl rfl (fun b38 => ?_) (fun b38 => ?_)
            · exact mv_vret d_Fund_giveUp_80 rfl ⟨_, I_28, rfl, kp0_28, kKJ_28⟩
            · refine mv_aload_n d_Fund_giveUp_59 rfl rfl ?_
              refine tr_getK (k := 11) q29 d_Fund_giveUp_60 f_Fund_24_6 ?_
              refine mv_iload_n d_Fund_giveUp_63 rfl rfl ?_
              obtain ⟨m40, e41, N42, f43, h39⟩ := tm_lsn I_28 t_a30 q37
              obtain ⟨u44e, u44i, a45, u44f, u44t⟩ := tm_el (i := i2_28) h39 (by omega) (by omega)
              have t_a45 : T_28 a45 = some (0, 3, 0) := u44t
              refine mv_callV_s (kc' := 0) (ks' := 0) [.int i2_28] [.int i2_28, .ref a30] d_Fund_giveUp_64 lV_Fund_65 h39.1 rfl (tc_L_get (d := d) h39.1 u44e (by omega) (by omega) u44i u44f) rfl (Nat.le_of_ble_eq_true rfl) (Nat.le_of_ble_eq_true rfl) (Nat.le_of_ble_eq_true rfl) rfl ?_
              obtain ⟨_, b46, -⟩ := I_28.1 _ _ t_a45
              refine mv_castS (T9 := kF_End) (N := 4) d_Fund_giveUp_67 (mj_in1 (List.mem_of_getElem? (i := 751) (by decide +kernel)) rfl) b46 rfl ?_
              refine mv_iconst (v := 2) d_Fund_giveUp_70 (by decide) ?_
              refine tr_putKM tm_okF I_28 t_a45 (k := 1) rfl ⟨_, rfl⟩ (Or.inl (by decide)) d_Fund_giveUp_71 p_Fund_80_3 rfl rfl (fun M47 I48 q49 K50 K50M => ?_)
              have K51 : ∀ (a : Nat) (w : Value), T0 a = some (0, 6, 0) → a ≠ o0 → tm_at M0 a 6 8 w → tm_at M47 a 6 8 w := fun a w h hx q => K50 _ 6 8 _ rfl (kKJ_28 a w h hx q)
              refine mv_iinc (v := (i2_28 + 1)) (lv' := [(2, .int (i2_28 + 1)), (0, .ref o0), (1, .int x1)]) d_Fund_giveUp_74 rfl rfl (by decide) rfl ?_
              refine mv_goto (tgt := 48) d_Fund_giveUp_77 (by decide) ?_
              have b52 : (i2_28 + 1).toInt = i2_28.toInt + 1 := mz_addn 1 1 (by decide) (by have := mz_lo i2_28; omega) (by have := mz_hi i2_28; omega)
              exact (ih28 (i2_28 + 1) T_28 M47 n_28 I48 h_q0_28 (by first | omega | decide) (K50 _ 6 8 _ rfl kp0_28) K51 (by omega))
        exact mv_less (Nat.zero_le _) (Nat.zero_le _) (L48_28 4294967296 0 T_26 M_26 n_26 I_26 h_q0_26 (by first | omega | decide) kp0_26 kKJ_26 (by show (2147483647 - (0 : Int) : Int) < _; decide))
      · refine mv_aload_n d_Fund_giveUp_33 rfl rfl ?_
        obtain ⟨a54, q53, t_a54⟩ := tm_atR I_26 h_q0_26 (k := 13) rfl
        refine tr_getK q53 d_Fund_giveUp_34 f_Fund_32_6 ?_
        refine mv_iload_n d_Fund_giveUp_37 rfl rfl ?_
        refine mv_iconst (v := 0) d_Fund_giveUp_38 (by decide) ?_
        refine tr_zastK tm_okF I_26 t_a54 (by decide) (Or.inl (by decide)) d_Fund_giveUp_39 (vp_in_iff.mpr (by omega)) (fun M55 I56 K57 => ?_)
        have K58 : ∀ (a : Nat) (w : Value), T0 a = some (0, 6, 0) → a ≠ o0 → tm_at M0 a 6 8 w → tm_at M55 a 6 8 w := fun a w h hx q => K57 _ 6 8 _ (kKJ_26 a w h hx q)
        refine mv_iinc (v := (i2_26 + 1)) (lv' := [(2, .int (i2_26 + 1)), (0, .ref o0), (1, .int x1)]) d_Fund_giveUp_40 rfl rfl (by decide) rfl ?_
        refine mv_goto (tgt := 27) d_Fund_giveUp_43 (by decide) ?_
        have b59 : (i2_26 + 1).toInt = i2_26.toInt + 1 := mz_addn 1 1 (by decide) (by have := mz_lo i2_26; omega) (by have := mz_hi i2_26; omega)
        exact (ih26 (i2_26 + 1) T_26 M55 n_26 I56 h_q0_26 (by first | omega | decide) (K57 _ 6 8 _ kp0_26) K58 (by omega))
  exact mv_less (Nat.zero_le _) (Nat.zero_le _) (L27_26 4294967296 0 T0 M21 n0 I22 h_o0 (by first | omega | decide) (K24 _ 6 8 _ rfl (K19 _ 6 8 _ rfl (K14 _ 6 8 _ rfl (K9 _ 6 8 _ rfl q3)))) K25 (by show (2147483647 - (0 : Int) : Int) < _; decide))
abbrev kY_TrustDesk_settle : mj_Y := (⟨"TrustDesk", "settle", "(I)I"⟩, prog_1_method_24_code, 4, (Option.some Jvm.ClassFile.FieldType.int))
theorem d_TrustDesk_settle_0 : decode kY_TrustDesk_settle.2.1 0 = .ok (.aload_n 0, 1) := by decide +kernel
theorem d_TrustDesk_settle_1 : decode kY_TrustDesk_settle.2.1 1 = .ok (.iload_n 1, 1) := by decide +kernel
theorem d_TrustDesk_settle_2 : decode kY_TrustDesk_settle.2.1 2 = .ok (.invokevirtual 280, 3) := by decide +kernel
theorem d_TrustDesk_settle_5 : decode kY_TrustDesk_settle.2.1 5 = .ok (.astore_n 2, 1) := by decide +kernel
theorem d_TrustDesk_settle_6 : decode kY_TrustDesk_settle.2.1 6 = .ok (.aload_n 2, 1) := by decide +kernel
theorem d_TrustDesk_settle_7 : decode kY_TrustDesk_settle.2.1 7 = .ok (.ifnull 21, 3) := by decide +kernel
theorem d_TrustDesk_settle_28 : decode kY_TrustDesk_settle.2.1 28 = .ok (.iconst (-1), 1) := by decide +kernel
theorem d_TrustDesk_settle_29 : decode kY_TrustDesk_settle.2.1 29 = .ok (.ireturn, 1) := by decide +kernel
theorem d_TrustDesk_settle_10 : decode kY_TrustDesk_settle.2.1 10 = .ok (.aload_n 2, 1) := by decide +kernel
theorem d_TrustDesk_settle_11 : decode kY_TrustDesk_settle.2.1 11 = .ok (.getfield 284, 3) := by decide +kernel
theorem d_TrustDesk_settle_14 : decode kY_TrustDesk_settle.2.1 14 = .ok (.ifCond .ne 14, 3) := by decide +kernel
theorem d_TrustDesk_settle_17 : decode kY_TrustDesk_settle.2.1 17 = .ok (.aload_n 0, 1) := by decide +kernel
theorem d_TrustDesk_settle_18 : decode kY_TrustDesk_settle.2.1 18 = .ok (.getfield 73, 3) := by decide +kernel
theorem d_TrustDesk_settle_21 : decode kY_TrustDesk_settle.2.1 21 = .ok (.aload_n 2, 1) := by decide +kernel
theorem d_TrustDesk_settle_22 : decode kY_TrustDesk_settle.2.1 22 = .ok (.getfield 285, 3) := by decide +kernel
theorem d_TrustDesk_settle_25 : decode kY_TrustDesk_settle.2.1 25 = .ok (.if_icmp .gt 5, 3) := by decide +kernel
theorem d_TrustDesk_settle_30 : decode kY_TrustDesk_settle.2.1 30 = .ok (.aload_n 0, 1) := by decide +kernel
theorem d_TrustDesk_settle_31 : decode kY_TrustDesk_settle.2.1 31 = .ok (.aload_n 2, 1) := by decide +kernel
theorem d_TrustDesk_settle_32 : decode kY_TrustDesk_settle.2.1 32 = .ok (.invokevirtual 314, 3) := by decide +kernel
theorem lV_TrustDesk_314 : mj_lV "TrustDesk" 314 kY_TrustDesk_failureOf 1 := ⟨⟨(mj_in1 (List.mem_of_getElem? (i := 1053) (by decide +kernel)) rfl), (mj_in1 (List.mem_of_getElem? (i := 1) (by decide +kernel)) rfl), (mj_in1 (List.mem_of_getElem? (i := 1056) (by decide +kernel)) rfl), by decide, rfl, by decide⟩, (mj_in1 (List.mem_of_getElem? (i := 1055) (by decide +kernel)) rfl), (mj_in (List.mem_append_left _ (List.mem_of_getElem? (i := 54) (by decide +kernel))) rfl)⟩
theorem d_TrustDesk_settle_35 : decode kY_TrustDesk_settle.2.1 35 = .ok (.istore_n 3, 1) := by decide +kernel
theorem d_TrustDesk_settle_36 : decode kY_TrustDesk_settle.2.1 36 = .ok (.aload_n 2, 1) := by decide +kernel
theorem d_TrustDesk_settle_37 : decode kY_TrustDesk_settle.2.1 37 = .ok (.iload_n 3, 1) := by decide +kernel
theorem d_TrustDesk_settle_38 : decode kY_TrustDesk_settle.2.1 38 = .ok (.putfield 318, 3) := by decide +kernel
theorem p_TrustDesk_318_11 : mj_fp "TrustDesk" 318 11 6 (kt_Scheme 6) false := ⟨kR_Scheme, kF_Scheme, 12, "TrustDesk$Scheme", kt_Scheme, rfl, kg_11, by decide, (mj_in1 (List.mem_of_getElem? (i := 979) (by decide +kernel)) rfl), Or.inl rfl, kto_Scheme, kn_Scheme, rfl, rfl, fun h => by cases h⟩
theorem d_TrustDesk_settle_41 : decode kY_TrustDesk_settle.2.1 41 = .ok (.aload_n 2, 1) := by decide +kernel
theorem d_TrustDesk_settle_42 : decode kY_TrustDesk_settle.2.1 42 = .ok (.iload_n 3, 1) := by decide +kernel
theorem d_TrustDesk_settle_43 : decode kY_TrustDesk_settle.2.1 43 = .ok (.ifCond .ne 7, 3) := by decide +kernel
theorem d_TrustDesk_settle_50 : decode kY_TrustDesk_settle.2.1 50 = .ok (.iconst 2, 1) := by decide +kernel
theorem d_TrustDesk_settle_51 : decode kY_TrustDesk_settle.2.1 51 = .ok (.putfield 284, 3) := by decide +kernel
theorem p_TrustDesk_284_11 : mj_fp "TrustDesk" 284 11 5 (kt_Scheme 5) false := ⟨kR_Scheme, kF_Scheme, 12, "TrustDesk$Scheme", kt_Scheme, rfl, kg_11, by decide, (mj_in1 (List.mem_of_getElem? (i := 978) (by decide +kernel)) rfl), Or.inl rfl, kto_Scheme, kn_Scheme, rfl, rfl, fun h => by cases h⟩
theorem d_TrustDesk_settle_54 : decode kY_TrustDesk_settle.2.1 54 = .ok (.iload_n 3, 1) := by decide +kernel
theorem d_TrustDesk_settle_55 : decode kY_TrustDesk_settle.2.1 55 = .ok (.ifCond .ne 8, 3) := by decide +kernel
theorem d_TrustDesk_settle_63 : decode kY_TrustDesk_settle.2.1 63 = .ok (.iload_n 3, 1) := by decide +kernel
theorem d_TrustDesk_settle_64 : decode kY_TrustDesk_settle.2.1 64 = .ok (.ireturn, 1) := by decide +kernel
theorem d_TrustDesk_settle_46 : decode kY_TrustDesk_settle.2.1 46 = .ok (.iconst 1, 1) := by decide +kernel
theorem d_TrustDesk_settle_47 : decode kY_TrustDesk_settle.2.1 47 = .ok (.goto 4, 3) := by decide +kernel
theorem d_TrustDesk_settle_58 : decode kY_TrustDesk_settle.2.1 58 = .ok (.aload_n 0, 1) := by decide +kernel
theorem d_TrustDesk_settle_59 : decode kY_TrustDesk_settle.2.1 59 = .ok (.aload_n 2, 1) := by decide +kernel
theorem d_TrustDesk_settle_60 : decode kY_TrustDesk_settle.2.1 60 = .ok (.invokevirtual 321, 3) := by decide +kernel
abbrev kY_TrustDesk_carryOut : mj_Y := (⟨"TrustDesk", "carryOut", "(LTrustDesk$Scheme;)V"⟩, prog_1_method_31_code, 3, (Option.none : Option Jvm.ClassFile.FieldType))
theorem lV_TrustDesk_321 : mj_lV "TrustDesk" 321 kY_TrustDesk_carryOut 1 := ⟨⟨(mj_in1 (List.mem_of_getElem? (i := 1113) (by decide +kernel)) rfl), (mj_in1 (List.mem_of_getElem? (i := 1) (by decide +kernel)) rfl), (mj_in1 (List.mem_of_getElem? (i := 1116) (by decide +kernel)) rfl), by decide, rfl, by decide⟩, (mj_in1 (List.mem_of_getElem? (i := 1115) (by decide +kernel)) rfl), (mj_in (List.mem_append_left _ (List.mem_of_getElem? (i := 60) (by decide +kernel))) rfl)⟩
theorem d_TrustDesk_carryOut_0 : decode kY_TrustDesk_carryOut.2.1 0 = .ok (.aload_n 0, 1) := by decide +kernel
theorem d_TrustDesk_carryOut_1 : decode kY_TrustDesk_carryOut.2.1 1 = .ok (.aload_n 1, 1) := by decide +kernel
theorem d_TrustDesk_carryOut_2 : decode kY_TrustDesk_carryOut.2.1 2 = .ok (.getfield 302, 3) := by decide +kernel
theorem d_TrustDesk_carryOut_5 : decode kY_TrustDesk_carryOut.2.1 5 = .ok (.invokevirtual 257, 3) := by decide +kernel
theorem d_TrustDesk_carryOut_8 : decode kY_TrustDesk_carryOut.2.1 8 = .ok (.astore_n 2, 1) := by decide +kernel
theorem d_TrustDesk_carryOut_9 : decode kY_TrustDesk_carryOut.2.1 9 = .ok (.aload_n 2, 1) := by decide +kernel
theorem d_TrustDesk_carryOut_10 : decode kY_TrustDesk_carryOut.2.1 10 = .ok (.ifnonnull 4, 3) := by decide +kernel
theorem d_TrustDesk_carryOut_13 : decode kY_TrustDesk_carryOut.2.1 13 = .ok (.return_, 1) := by decide +kernel
theorem d_TrustDesk_carryOut_14 : decode kY_TrustDesk_carryOut.2.1 14 = .ok (.aload_n 1, 1) := by decide +kernel
theorem d_TrustDesk_carryOut_15 : decode kY_TrustDesk_carryOut.2.1 15 = .ok (.getfield 308, 3) := by decide +kernel
theorem d_TrustDesk_carryOut_18 : decode kY_TrustDesk_carryOut.2.1 18 = .ok (.tableswitch 70 0 2 #[26, 42, 58], 26) := by decide +kernel
theorem d_TrustDesk_carryOut_88 : decode kY_TrustDesk_carryOut.2.1 88 = .ok (.aload_n 0, 1) := by decide +kernel
theorem d_TrustDesk_carryOut_89 : decode kY_TrustDesk_carryOut.2.1 89 = .ok (.aload_n 2, 1) := by decide +kernel
theorem d_TrustDesk_carryOut_90 : decode kY_TrustDesk_carryOut.2.1 90 = .ok (.aload_n 1, 1) := by decide +kernel
theorem d_TrustDesk_carryOut_91 : decode kY_TrustDesk_carryOut.2.1 91 = .ok (.getfield 311, 3) := by decide +kernel
theorem d_TrustDesk_carryOut_94 : decode kY_TrustDesk_carryOut.2.1 94 = .ok (.invokevirtual 359, 3) := by decide +kernel
theorem d_TrustDesk_carryOut_97 : decode kY_TrustDesk_carryOut.2.1 97 = .ok (.invokevirtual 403, 3) := by decide +kernel
def w_TrustDesk_strike_n1 : List Nat := []
theorem tc_TrustDesk_strike_n1 {g : mj_G} {l : Launch} {d : Nat} {T0 : tm_H} {M0 : mj_M} {n0 x9 : Nat} {o0 : Nat} (h_o0 : T0 o0 = some (0, 12, 0)) (I0 : tm_I tm_FT (tm_in w_TrustDesk_strike_n1) x9 T0 M0 n0 T0 M0 n0) : mj_Met g l kY_TrustDesk_strike d [.ref o0, .null] M0 n0 0 0 (tm_Q tm_FT (tm_in w_TrustDesk_strike_n1) x9 T0 M0 n0 (fun r _ _ => r = none)) := by
  refine mj_enter (by decide) (Nat.le_of_ble_eq_true rfl) ?_
  refine mv_aload_nN d_TrustDesk_strike_0 rfl rfl ?_
  refine mv_ifnullN (tgt := 9) d_TrustDesk_strike_1 (by decide) ?_
  exact mv_vret d_TrustDesk_strike_9 rfl ⟨_, I0, rfl⟩
theorem lV_TrustDesk_403 : mj_lV "TrustDesk" 403 kY_TrustDesk_strike 1 := ⟨⟨(mj_in1 (List.mem_of_getElem? (i := 1162) (by decide +kernel)) rfl), (mj_in1 (List.mem_of_getElem? (i := 1) (by decide +kernel)) rfl), (mj_in1 (List.mem_of_getElem? (i := 1165) (by decide +kernel)) rfl), by decide, rfl, by decide⟩, (mj_in1 (List.mem_of_getElem? (i := 1164) (by decide +kernel)) rfl), (mj_in (List.mem_append_left _ (List.mem_of_getElem? (i := 65) (by decide +kernel))) rfl)⟩
theorem d_TrustDesk_carryOut_100 : decode kY_TrustDesk_carryOut.2.1 100 = .ok (.return_, 1) := by decide +kernel
theorem d_TrustDesk_carryOut_44 : decode kY_TrustDesk_carryOut.2.1 44 = .ok (.aload_n 0, 1) := by decide +kernel
theorem d_TrustDesk_carryOut_45 : decode kY_TrustDesk_carryOut.2.1 45 = .ok (.aload_n 2, 1) := by decide +kernel
theorem d_TrustDesk_carryOut_46 : decode kY_TrustDesk_carryOut.2.1 46 = .ok (.aload_n 0, 1) := by decide +kernel
theorem d_TrustDesk_carryOut_47 : decode kY_TrustDesk_carryOut.2.1 47 = .ok (.aload_n 1, 1) := by decide +kernel
theorem d_TrustDesk_carryOut_48 : decode kY_TrustDesk_carryOut.2.1 48 = .ok (.getfield 311, 3) := by decide +kernel
theorem d_TrustDesk_carryOut_51 : decode kY_TrustDesk_carryOut.2.1 51 = .ok (.invokevirtual 276, 3) := by decide +kernel
theorem d_TrustDesk_carryOut_54 : decode kY_TrustDesk_carryOut.2.1 54 = .ok (.invokevirtual 391, 3) := by decide +kernel
def w_TrustDesk_bringNear_n2 : List Nat := []
theorem tc_TrustDesk_bringNear_n2 {g : mj_G} {l : Launch} {d : Nat} {T0 : tm_H} {M0 : mj_M} {n0 x9 : Nat} {o0 : Nat} {o1 : Nat} (h_o0 : T0 o0 = some (0, 12, 0)) (h_o1 : T0 o1 = some (0, 6, 0)) (I0 : tm_I tm_FT (tm_in w_TrustDesk_bringNear_n2) x9 T0 M0 n0 T0 M0 n0) : mj_Met g l kY_TrustDesk_bringNear (d + 4) [.ref o0, .ref o1, .null] M0 n0 0 0 (tm_Q tm_FT (tm_in w_TrustDesk_bringNear_n2) x9 T0 M0 n0 (fun r _ _ => r = none)) := by
  refine mj_enter (by decide) (Nat.le_of_ble_eq_true rfl) ?_
  refine mv_aload_n d_TrustDesk_bringNear_0 rfl rfl ?_
  obtain ⟨_, b7, -⟩ := I0.1 _ _ h_o1
  refine mv_callV (kc' := 0) (ks' := 0) (As := []) (st9 := [.ref o1]) d_TrustDesk_bringNear_1 lV_TrustDesk_348 b7 rfl (tc_Fund_firstDead (d := d) (x9 := x9) (o0 := o1) h_o1 I0.start) rfl (Nat.le_of_ble_eq_true rfl) (Nat.le_of_ble_eq_true rfl) (Nat.le_of_ble_eq_true rfl) (hst := rfl) (fun b1r M2 n3 b1 => ?_)
  obtain ⟨T4, J5, b9⟩ := b1
  have I6 := I0.call J5 (tm_sub (by decide)) (Or.inl rfl)
  have t10 := J5.up h_o0
  have t11 := J5.up h_o1
  rcases b9 with rfl | ⟨a8, rfl, t_a8⟩
  · refine mv_astore_nN (lv' := [(3, .null), (0, .ref o0), (1, .ref o1), (2, .null)]) d_TrustDesk_bringNear_4 rfl (by decide) rfl ?_
    refine mv_aload_nN d_TrustDesk_bringNear_5 rfl rfl ?_
    refine mv_ifnullN (tgt := 13) d_TrustDesk_bringNear_6 (by decide) ?_
    exact mv_vret d_TrustDesk_bringNear_13 rfl ⟨_, I6, rfl⟩
  · refine mv_astore_n (lv' := [(3, .ref a8), (0, .ref o0), (1, .ref o1), (2, .null)]) d_TrustDesk_bringNear_4 rfl (by decide) rfl ?_
    refine mv_aload_n d_TrustDesk_bringNear_5 rfl rfl ?_
    refine mv_ifnull d_TrustDesk_bringNear_6 ?_
    refine mv_aload_nN d_TrustDesk_bringNear_9 rfl rfl ?_
    refine mv_ifnonnullN d_TrustDesk_bringNear_10 ?_
    exact mv_vret d_TrustDesk_bringNear_13 rfl ⟨_, I6, rfl⟩
theorem lV_TrustDesk_391 : mj_lV "TrustDesk" 391 kY_TrustDesk_bringNear 2 := ⟨⟨(mj_in1 (List.mem_of_getElem? (i := 1117) (by decide +kernel)) rfl), (mj_in1 (List.mem_of_getElem? (i := 1) (by decide +kernel)) rfl), (mj_in1 (List.mem_of_getElem? (i := 1120) (by decide +kernel)) rfl), by decide, rfl, by decide⟩, (mj_in1 (List.mem_of_getElem? (i := 1119) (by decide +kernel)) rfl), (mj_in (List.mem_append_left _ (List.mem_of_getElem? (i := 61) (by decide +kernel))) rfl)⟩
theorem d_TrustDesk_carryOut_57 : decode kY_TrustDesk_carryOut.2.1 57 = .ok (.goto 43, 3) := by decide +kernel
theorem d_TrustDesk_carryOut_60 : decode kY_TrustDesk_carryOut.2.1 60 = .ok (.aload_n 0, 1) := by decide +kernel
theorem d_TrustDesk_carryOut_61 : decode kY_TrustDesk_carryOut.2.1 61 = .ok (.aload_n 2, 1) := by decide +kernel
theorem d_TrustDesk_carryOut_62 : decode kY_TrustDesk_carryOut.2.1 62 = .ok (.aload_n 0, 1) := by decide +kernel
theorem d_TrustDesk_carryOut_63 : decode kY_TrustDesk_carryOut.2.1 63 = .ok (.aload_n 1, 1) := by decide +kernel
theorem d_TrustDesk_carryOut_64 : decode kY_TrustDesk_carryOut.2.1 64 = .ok (.getfield 311, 3) := by decide +kernel
theorem d_TrustDesk_carryOut_67 : decode kY_TrustDesk_carryOut.2.1 67 = .ok (.invokevirtual 257, 3) := by decide +kernel
theorem d_TrustDesk_carryOut_70 : decode kY_TrustDesk_carryOut.2.1 70 = .ok (.invokevirtual 395, 3) := by decide +kernel
abbrev kY_TrustDesk_join : mj_Y := (⟨"TrustDesk", "join", "(LTrustDesk$Fund;LTrustDesk$Fund;)V"⟩, prog_1_method_33_code, 7, (Option.none : Option Jvm.ClassFile.FieldType))
theorem lV_TrustDesk_395 : mj_lV "TrustDesk" 395 kY_TrustDesk_join 2 := ⟨⟨(mj_in1 (List.mem_of_getElem? (i := 1125) (by decide +kernel)) rfl), (mj_in1 (List.mem_of_getElem? (i := 1) (by decide +kernel)) rfl), (mj_in1 (List.mem_of_getElem? (i := 1128) (by decide +kernel)) rfl), by decide, rfl, by decide⟩, (mj_in1 (List.mem_of_getElem? (i := 1127) (by decide +kernel)) rfl), (mj_in (List.mem_append_left _ (List.mem_of_getElem? (i := 62) (by decide +kernel))) rfl)⟩
theorem d_TrustDesk_join_0 : decode kY_TrustDesk_join.2.1 0 = .ok (.aload_n 2, 1) := by decide +kernel
theorem d_TrustDesk_join_1 : decode kY_TrustDesk_join.2.1 1 = .ok (.ifnonnull 4, 3) := by decide +kernel
theorem d_TrustDesk_join_4 : decode kY_TrustDesk_join.2.1 4 = .ok (.return_, 1) := by decide +kernel
theorem d_TrustDesk_carryOut_73 : decode kY_TrustDesk_carryOut.2.1 73 = .ok (.goto 27, 3) := by decide +kernel
theorem d_TrustDesk_join_5 : decode kY_TrustDesk_join.2.1 5 = .ok (.aload_n 0, 1) := by decide +kernel
theorem d_TrustDesk_join_6 : decode kY_TrustDesk_join.2.1 6 = .ok (.aload_n 1, 1) := by decide +kernel
theorem d_TrustDesk_join_7 : decode kY_TrustDesk_join.2.1 7 = .ok (.invokevirtual 412, 3) := by decide +kernel
theorem lV_TrustDesk_412 : mj_lV "TrustDesk" 412 kY_TrustDesk_worthOf 1 := ⟨⟨(mj_in1 (List.mem_of_getElem? (i := 1129) (by decide +kernel)) rfl), (mj_in1 (List.mem_of_getElem? (i := 1) (by decide +kernel)) rfl), (mj_in1 (List.mem_of_getElem? (i := 1132) (by decide +kernel)) rfl), by decide, rfl, by decide⟩, (mj_in1 (List.mem_of_getElem? (i := 1131) (by decide +kernel)) rfl), (mj_in (List.mem_append_left _ (List.mem_of_getElem? (i := 63) (by decide +kernel))) rfl)⟩
theorem d_TrustDesk_join_10 : decode kY_TrustDesk_join.2.1 10 = .ok (.lstore_n 3, 1) := by decide +kernel
theorem d_TrustDesk_join_11 : decode kY_TrustDesk_join.2.1 11 = .ok (.aload_n 0, 1) := by decide +kernel
theorem d_TrustDesk_join_12 : decode kY_TrustDesk_join.2.1 12 = .ok (.aload_n 2, 1) := by decide +kernel
theorem d_TrustDesk_join_13 : decode kY_TrustDesk_join.2.1 13 = .ok (.invokevirtual 412, 3) := by decide +kernel
theorem d_TrustDesk_join_16 : decode kY_TrustDesk_join.2.1 16 = .ok (.lstore 5, 2) := by decide +kernel
theorem d_TrustDesk_join_18 : decode kY_TrustDesk_join.2.1 18 = .ok (.lload_n 3, 1) := by decide +kernel
theorem d_TrustDesk_join_19 : decode kY_TrustDesk_join.2.1 19 = .ok (.lconst 0, 1) := by decide +kernel
theorem d_TrustDesk_join_20 : decode kY_TrustDesk_join.2.1 20 = .ok (.lcmp, 1) := by decide +kernel
theorem d_TrustDesk_join_21 : decode kY_TrustDesk_join.2.1 21 = .ok (.ifCond .ne 15, 3) := by decide +kernel
theorem d_TrustDesk_join_36 : decode kY_TrustDesk_join.2.1 36 = .ok (.aload_n 2, 1) := by decide +kernel
theorem d_TrustDesk_join_37 : decode kY_TrustDesk_join.2.1 37 = .ok (.lload 5, 2) := by decide +kernel
theorem d_TrustDesk_join_39 : decode kY_TrustDesk_join.2.1 39 = .ok (.aload_n 1, 1) := by decide +kernel
theorem d_TrustDesk_join_40 : decode kY_TrustDesk_join.2.1 40 = .ok (.lload_n 3, 1) := by decide +kernel
theorem d_TrustDesk_join_41 : decode kY_TrustDesk_join.2.1 41 = .ok (.invokevirtual 416, 3) := by decide +kernel
theorem lV_TrustDesk_416 : mj_lV "TrustDesk" 416 kY_Fund_mixParts 3 := ⟨⟨(mj_in1 (List.mem_of_getElem? (i := 1136) (by decide +kernel)) rfl), (mj_in1 (List.mem_of_getElem? (i := 21) (by decide +kernel)) rfl), (mj_in1 (List.mem_of_getElem? (i := 1139) (by decide +kernel)) rfl), by decide, rfl, by decide⟩, (mj_in1 (List.mem_of_getElem? (i := 1137) (by decide +kernel)) rfl), (mj_in1 (List.mem_of_getElem? (i := 1138) (by decide +kernel)) rfl)⟩
theorem d_TrustDesk_join_44 : decode kY_TrustDesk_join.2.1 44 = .ok (.aload_n 2, 1) := by decide +kernel
theorem d_TrustDesk_join_45 : decode kY_TrustDesk_join.2.1 45 = .ok (.aload_n 1, 1) := by decide +kernel
theorem d_TrustDesk_join_46 : decode kY_TrustDesk_join.2.1 46 = .ok (.invokevirtual 420, 3) := by decide +kernel
theorem lV_TrustDesk_420 : mj_lV "TrustDesk" 420 kY_Fund_takeOver 1 := ⟨⟨(mj_in1 (List.mem_of_getElem? (i := 1140) (by decide +kernel)) rfl), (mj_in1 (List.mem_of_getElem? (i := 21) (by decide +kernel)) rfl), (mj_in1 (List.mem_of_getElem? (i := 1143) (by decide +kernel)) rfl), by decide, rfl, by decide⟩, (mj_in1 (List.mem_of_getElem? (i := 1141) (by decide +kernel)) rfl), (mj_in1 (List.mem_of_getElem? (i := 1142) (by decide +kernel)) rfl)⟩
theorem d_TrustDesk_join_49 : decode kY_TrustDesk_join.2.1 49 = .ok (.aload_n 1, 1) := by decide +kernel
theorem d_TrustDesk_join_50 : decode kY_TrustDesk_join.2.1 50 = .ok (.aload_n 2, 1) := by decide +kernel
theorem d_TrustDesk_join_51 : decode kY_TrustDesk_join.2.1 51 = .ok (.getfield 132, 3) := by decide +kernel
theorem d_TrustDesk_join_54 : decode kY_TrustDesk_join.2.1 54 = .ok (.invokevirtual 423, 3) := by decide +kernel
theorem lV_TrustDesk_423 : mj_lV "TrustDesk" 423 kY_Fund_giveUp 1 := ⟨⟨(mj_in1 (List.mem_of_getElem? (i := 1154) (by decide +kernel)) rfl), (mj_in1 (List.mem_of_getElem? (i := 21) (by decide +kernel)) rfl), (mj_in1 (List.mem_of_getElem? (i := 1157) (by decide +kernel)) rfl), by decide, rfl, by decide⟩, (mj_in1 (List.mem_of_getElem? (i := 1155) (by decide +kernel)) rfl), (mj_in1 (List.mem_of_getElem? (i := 1156) (by decide +kernel)) rfl)⟩
theorem d_TrustDesk_join_57 : decode kY_TrustDesk_join.2.1 57 = .ok (.return_, 1) := by decide +kernel
theorem d_TrustDesk_join_24 : decode kY_TrustDesk_join.2.1 24 = .ok (.lload 5, 2) := by decide +kernel
theorem d_TrustDesk_join_26 : decode kY_TrustDesk_join.2.1 26 = .ok (.lconst 0, 1) := by decide +kernel
theorem d_TrustDesk_join_27 : decode kY_TrustDesk_join.2.1 27 = .ok (.lcmp, 1) := by decide +kernel
theorem d_TrustDesk_join_28 : decode kY_TrustDesk_join.2.1 28 = .ok (.ifCond .ne 8, 3) := by decide +kernel
theorem d_TrustDesk_join_31 : decode kY_TrustDesk_join.2.1 31 = .ok (.lconst 1, 1) := by decide +kernel
theorem d_TrustDesk_join_32 : decode kY_TrustDesk_join.2.1 32 = .ok (.lstore_n 3, 1) := by decide +kernel
theorem d_TrustDesk_join_33 : decode kY_TrustDesk_join.2.1 33 = .ok (.lconst 1, 1) := by decide +kernel
theorem d_TrustDesk_join_34 : decode kY_TrustDesk_join.2.1 34 = .ok (.lstore 5, 2) := by decide +kernel
theorem d_TrustDesk_carryOut_76 : decode kY_TrustDesk_carryOut.2.1 76 = .ok (.aload_n 0, 1) := by decide +kernel
theorem d_TrustDesk_carryOut_77 : decode kY_TrustDesk_carryOut.2.1 77 = .ok (.aload_n 2, 1) := by decide +kernel
theorem d_TrustDesk_carryOut_78 : decode kY_TrustDesk_carryOut.2.1 78 = .ok (.aload_n 1, 1) := by decide +kernel
theorem d_TrustDesk_carryOut_79 : decode kY_TrustDesk_carryOut.2.1 79 = .ok (.getfield 311, 3) := by decide +kernel
theorem d_TrustDesk_carryOut_82 : decode kY_TrustDesk_carryOut.2.1 82 = .ok (.invokevirtual 399, 3) := by decide +kernel
theorem lV_TrustDesk_399 : mj_lV "TrustDesk" 399 kY_TrustDesk_sell 2 := ⟨⟨(mj_in1 (List.mem_of_getElem? (i := 1158) (by decide +kernel)) rfl), (mj_in1 (List.mem_of_getElem? (i := 1) (by decide +kernel)) rfl), (mj_in1 (List.mem_of_getElem? (i := 1161) (by decide +kernel)) rfl), by decide, rfl, by decide⟩, (mj_in1 (List.mem_of_getElem? (i := 1160) (by decide +kernel)) rfl), (mj_in (List.mem_append_left _ (List.mem_of_getElem? (i := 64) (by decide +kernel))) rfl)⟩
theorem d_TrustDesk_carryOut_85 : decode kY_TrustDesk_carryOut.2.1 85 = .ok (.goto 15, 3) := by decide +kernel
def w_Fund_init_x : List Nat := [662]
theorem tc_Fund_init_x {g : mj_G} {l : Launch} {d : Nat} {T0 : tm_H} {M0 : mj_M} {n0 : Nat} {o0 : Nat} {x1 : Int32} {x2 : Int32} {x3 : Int32} (h_o0 : T0 o0 = some (5, 6, 0)) (m_o0 : M0 o0 = some (.inr (6, [.int 0, .int 0, .int 0, .long 0, .int 0, .int 0, .int 0, .int 0, .int 0, .int 0, .long 0, .null, .null, .null, .null])))  (I0 : tm_I tm_FT (tm_in w_Fund_init_x) o0 T0 M0 n0 T0 M0 n0) : mj_Met g l kY_Fund_init (d + 4) [.ref o0, .int x1, .int x2, .int x3] M0 n0 4 216 (tm_Q tm_FT (tm_in w_Fund_init_x) o0 T0 M0 n0 (fun r T M => r = none ∧ ∃ c0 c1 c2 c3 : Nat, M o0 = some (.inr (6, [.int x1, .int x2, .int x3, .long 0, .int 0, .int 7, .int 1, .int 0, .int (-1), .int 0, .long 0, .ref c0, .ref c1, .ref c2, .ref c3])) ∧ T c0 = some (3, 3, o0) ∧ T c1 = some (1, 5296, 12) ∧ T c2 = some (1, 5306, 100) ∧ T c3 = some (1, 5314, 101) ∧ tm_at M c0 0 2 (.int 0))) := by
  refine mj_enter (by decide) (Nat.le_of_ble_eq_true rfl) ?_
  refine mv_aload_n d_Fund_init_0 rfl rfl ?_
  refine mv_oinit d_Fund_init_1 (mj_in1 (List.mem_of_getElem? (i := 660) (by decide +kernel)) rfl) (Nat.le_of_ble_eq_true rfl) ?_
  refine mv_aload_n d_Fund_init_4 rfl rfl ?_
  refine mv_bipush (v := 7) d_Fund_init_5 (by decide) ?_
  refine tr_putX (k := 5) (fs' := [.int 0, .int 0, .int 0, .long 0, .int 0, .int 7, .int 0, .int 0, .int 0, .int 0, .long 0, .null, .null, .null, .null]) tm_okF I0 h_o0 (Or.inl rfl) m_o0 d_Fund_init_7 p_Fund_9_6 (Nat.le_of_ble_eq_true rfl) rfl rfl rfl (fun M1 I2 m3 K4 => ?_)
  refine mv_aload_n d_Fund_init_10 rfl rfl ?_
  refine mv_iconst (v := 1) d_Fund_init_11 (by decide) ?_
  refine tr_putX (k := 6) (fs' := [.int 0, .int 0, .int 0, .long 0, .int 0, .int 7, .int 1, .int 0, .int 0, .int 0, .long 0, .null, .null, .null, .null]) tm_okF I2 h_o0 (Or.inl rfl) m3 d_Fund_init_12 p_Fund_15_6 (Nat.le_of_ble_eq_true rfl) rfl rfl rfl (fun M5 I6 m7 K8 => ?_)
  refine mv_aload_n d_Fund_init_15 rfl rfl ?_
  refine mv_iconst (v := (-1)) d_Fund_init_16 (by decide) ?_
  refine tr_putX (k := 8) (fs' := [.int 0, .int 0, .int 0, .long 0, .int 0, .int 7, .int 1, .int 0, .int (-1), .int 0, .long 0, .null, .null, .null, .null]) tm_okF I6 h_o0 (Or.inl rfl) m7 d_Fund_init_17 p_Fund_18_6 (Nat.le_of_ble_eq_true rfl) rfl rfl rfl (fun M9 I10 m11 K12 => ?_)
  refine mv_aload_n d_Fund_init_20 rfl rfl ?_
  refine tr_new (kc' := 3) (ks' := 213) tm_okF I10 d_Fund_init_21 n_Fund_21 (Nat.le_of_ble_eq_true rfl) (Nat.le_of_ble_eq_true rfl) (fun T13 M14 I15 t_x16 m17 h18 u19 K20 => ?_)
  have m21 := (K20 _ _ h_o0).trans m11
  have t22 := u19 _ _ h_o0
  have h23 := tm_ne I10 h_o0
  refine mv_dup d_Fund_init_24 rfl ?_
  refine mv_callI (kc' := 3) (ks' := 213) (As := []) (st9 := [.ref n0, .ref n0, .ref o0]) d_Fund_init_25 lI_Fund_23 (tc_ArrayList_init (d := d) (o0 := n0) t_x16 m17 I15.start) rfl (Nat.le_of_ble_eq_true rfl) (Nat.le_of_ble_eq_true rfl) (Nat.le_of_ble_eq_true rfl) (hst := rfl) (fun b24r M25 n26 b24 => ?_)
  obtain ⟨T27, J28, rfl, m30⟩ := b24
  have I29 := I15.call J28 (tm_sub (by decide)) (Or.inr h18)
  have m31 := (J28.keepX t22 h23).trans m21
  have t32 := J28.up t_x16
  have t33 := J28.up t22
  obtain ⟨T34, I35, t_x36, u37⟩ := I29.sealL (o := o0) (c := 3) tm_okF t32 h18 m30
  have t38 := u37 _ _ t33 h23
  have q39 : tm_at M25 n0 0 2 (.int 0) := ⟨_, m30, rfl⟩
  refine tr_putXF (k := 11) (fs' := [.int 0, .int 0, .int 0, .long 0, .int 0, .int 7, .int 1, .int 0, .int (-1), .int 0, .long 0, .ref n0, .null, .null, .null]) tm_okF I35 t38 (Or.inl rfl) m31 d_Fund_init_28 p_Fund_24_6 rfl (Nat.le_of_ble_eq_true rfl) rfl rfl rfl (fun M40 I41 m42 K43 => ?_)
  have q44 := tm_at.eq (K43 _ (tm_dif t_x36 t38 rfl)) q39
  refine mv_aload_n d_Fund_init_31 rfl rfl ?_
  refine mv_bipush (v := 12) d_Fund_init_32 (by decide) ?_
  refine tr_newi (E := 5296) (N := 12) (kc' := 2) (ks' := 201) tm_okF I41 (by decide) d_Fund_init_34 (by decide) (by decide) (by decide) (Nat.le_of_ble_eq_true rfl) (Nat.le_of_ble_eq_true rfl) (fun T45 M46 I47 t_x48 u49 K50 => ?_)
  have q51 := tm_at.eq (K50 _ _ t_x36) q44
  have t52 := u49 _ _ t_x36
  have m53 := (K50 _ _ t38).trans m42
  have t54 := u49 _ _ t38
  refine tr_putXF (k := 12) (fs' := [.int 0, .int 0, .int 0, .long 0, .int 0, .int 7, .int 1, .int 0, .int (-1), .int 0, .long 0, .ref n0, .ref n26, .null, .null]) tm_okF I47 t54 (Or.inl rfl) m53 d_Fund_init_36 p_Fund_28_6 rfl (Nat.le_of_ble_eq_true rfl) rfl rfl rfl (fun M55 I56 m57 K58 => ?_)
  have q59 := tm_at.eq (K58 _ (tm_dif t52 t54 rfl)) q51
  refine mv_aload_n d_Fund_init_39 rfl rfl ?_
  refine mv_bipush (v := 100) d_Fund_init_40 (by decide) ?_
  refine tr_newz (E := 5306) (N := 100) (kc' := 1) (ks' := 101) tm_okF I56 (by decide) d_Fund_init_42 (by decide) (by decide) (by decide) (Nat.le_of_ble_eq_true rfl) (Nat.le_of_ble_eq_true rfl) (fun T60 M61 I62 t_x63 u64 K65 => ?_)
  have q66 := tm_at.eq (K65 _ _ t52) q59
  have t67 := u64 _ _ t52
  have m68 := (K65 _ _ t54).trans m57
  have t69 := u64 _ _ t54
  have t70 := u64 _ _ t_x48
  refine tr_putXF (k := 13) (fs' := [.int 0, .int 0, .int 0, .long 0, .int 0, .int 7, .int 1, .int 0, .int (-1), .int 0, .long 0, .ref n0, .ref n26, .ref (n26 + 1), .null]) tm_okF I62 t69 (Or.inl rfl) m68 d_Fund_init_44 p_Fund_32_6 rfl (Nat.le_of_ble_eq_true rfl) rfl rfl rfl (fun M71 I72 m73 K74 => ?_)
  have q75 := tm_at.eq (K74 _ (tm_dif t67 t69 rfl)) q66
  refine mv_aload_n d_Fund_init_47 rfl rfl ?_
  refine mv_bipush (v := 101) d_Fund_init_48 (by decide) ?_
  refine tr_newz (E := 5314) (N := 101) (kc' := 0) (ks' := 0) tm_okF I72 (by decide) d_Fund_init_50 (by decide) (by decide) (by decide) (Nat.le_of_ble_eq_true rfl) (Nat.le_of_ble_eq_true rfl) (fun T76 M77 I78 t_x79 u80 K81 => ?_)
  have q82 := tm_at.eq (K81 _ _ t67) q75
  have t83 := u80 _ _ t67
  have m84 := (K81 _ _ t69).trans m73
  have t85 := u80 _ _ t69
  have t86 := u80 _ _ t70
  have t87 := u80 _ _ t_x63
  refine tr_putXF (k := 14) (fs' := [.int 0, .int 0, .int 0, .long 0, .int 0, .int 7, .int 1, .int 0, .int (-1), .int 0, .long 0, .ref n0, .ref n26, .ref (n26 + 1), .ref ((n26 + 1) + 1)]) tm_okF I78 t85 (Or.inl rfl) m84 d_Fund_init_52 p_Fund_36_6 rfl (Nat.le_of_ble_eq_true rfl) rfl rfl rfl (fun M88 I89 m90 K91 => ?_)
  have q92 := tm_at.eq (K91 _ (tm_dif t83 t85 rfl)) q82
  refine mv_aload_n d_Fund_init_55 rfl rfl ?_
  refine mv_iload_n d_Fund_init_56 rfl rfl ?_
  refine tr_putXF (k := 0) (fs' := [.int x1, .int 0, .int 0, .long 0, .int 0, .int 7, .int 1, .int 0, .int (-1), .int 0, .long 0, .ref n0, .ref n26, .ref (n26 + 1), .ref ((n26 + 1) + 1)]) tm_okF I89 t85 (Or.inl rfl) m90 d_Fund_init_57 p_Fund_39_6 rfl (Nat.le_of_ble_eq_true rfl) rfl rfl rfl (fun M93 I94 m95 K96 => ?_)
  have q97 := tm_at.eq (K96 _ (tm_dif t83 t85 rfl)) q92
  refine mv_aload_n d_Fund_init_60 rfl rfl ?_
  refine mv_iload_n d_Fund_init_61 rfl rfl ?_
  refine tr_putX (k := 1) (fs' := [.int x1, .int x2, .int 0, .long 0, .int 0, .int 7, .int 1, .int 0, .int (-1), .int 0, .long 0, .ref n0, .ref n26, .ref (n26 + 1), .ref ((n26 + 1) + 1)]) tm_okF I94 t85 (Or.inl rfl) m95 d_Fund_init_62 p_Fund_42_6 (Nat.le_of_ble_eq_true rfl) rfl rfl rfl (fun M98 I99 m100 K101 => ?_)
  have q102 := tm_at.eq (K101 _ (tm_dif t83 t85 rfl)) q97
  refine mv_aload_n d_Fund_init_65 rfl rfl ?_
  refine mv_iload_n d_Fund_init_66 rfl rfl ?_
  refine tr_putX (k := 2) (fs' := [.int x1, .int x2, .int x3, .long 0, .int 0, .int 7, .int 1, .int 0, .int (-1), .int 0, .long 0, .ref n0, .ref n26, .ref (n26 + 1), .ref ((n26 + 1) + 1)]) tm_okF I99 t85 (Or.inl rfl) m100 d_Fund_init_67 p_Fund_45_6 (Nat.le_of_ble_eq_true rfl) rfl rfl rfl (fun M103 I104 m105 K106 => ?_)
  have q107 := tm_at.eq (K106 _ (tm_dif t83 t85 rfl)) q102
  refine mv_iload_n d_Fund_init_70 rfl rfl ?_
  have := mz_hi x1
  refine mv_if_ltZ (tgt := 88) (a := x1.toInt) d_Fund_init_71 (by decide) rfl (fun b108 => ?_) (fun b108 => ?_)
  · exact mv_vret d_Fund_init_88 rfl ⟨_, I104, rfl, _, _, _, _, m105, t83, t86, t87, t_x79, q107⟩
  · refine mv_iload_n d_Fund_init_74 rfl rfl ?_
    refine mv_bipush (v := 12) d_Fund_init_75 (by decide) ?_
    have := mz_hi x1
    refine mv_icmp_geZ (tgt := 88) (a := x1.toInt) (b := 12) d_Fund_init_77 (by decide) rfl (by decide) (fun b109 => ?_) (fun b109 => ?_)
    · exact mv_vret d_Fund_init_88 rfl ⟨_, I104, rfl, _, _, _, _, m105, t83, t86, t87, t_x79, q107⟩
    · refine mv_aload_n d_Fund_init_80 rfl rfl ?_
      refine mv_get d_Fund_init_81 f_Fund_28_6 m105 rfl ?_
      refine mv_iload_n d_Fund_init_84 rfl rfl ?_
      refine mv_ldc d_Fund_init_85 k_Fund_48 ?_
      refine tr_iastX tm_okF I104 t86 (by decide) (Or.inl (by decide)) d_Fund_init_87 (vp_in_iff.mpr (by omega)) (fun M110 I111 K112 K113 => ?_)
      have m114 := (K113 _ (tm_dif t85 t86 rfl)).trans m105
      exact mv_vret d_Fund_init_88 rfl ⟨_, I111, rfl, _, _, _, _, m114, t83, t86, t87, t_x79, (K112 _ 0 2 _ q107)⟩
def w_TrustDesk_days_x : List Nat := [301, 302, 303, 603, 610, 1001, 1003, 1004, 1050, 1052, 1210, 1212, 1259]
theorem tc_TrustDesk_days_x {g : mj_G} {l : Launch} {d : Nat} {T0 : tm_H} {M0 : mj_M} {n0 x9 : Nat} {o0 : Nat} {x1 : Int32} (h_o0 : T0 o0 = some (0, 12, 0)) {t : Int32} (yt : tm_at M0 o0 12 12 (.int t)) (I0 : tm_I tm_FT (tm_in w_TrustDesk_days_x) x9 T0 M0 n0 T0 M0 n0) : mj_Met g l kY_TrustDesk_days (d + 7) [.ref o0, .int x1] M0 n0 0 0 (tm_Q tm_FT (tm_in w_TrustDesk_days_x) x9 T0 M0 n0 (fun r _ M => ∃ v : Int32, r = some (.int v) ∧ ((v = -1 ∧ (x1.toInt < 1 ∨ 720 < x1.toInt ∨ 36000 < (t + x1).toInt) ∧ tm_at M o0 12 12 (.int t)) ∨ (v = t + x1 ∧ ¬ (x1.toInt < 1 ∨ 720 < x1.toInt ∨ 36000 < (t + x1).toInt) ∧ tm_at M o0 12 12 (.int (t + x1)))))) := by
  refine mj_enter (by decide) (Nat.le_of_ble_eq_true rfl) ?_
  refine mv_iload_n d_TrustDesk_days_0 rfl rfl ?_
  refine mv_iconst (v := 1) d_TrustDesk_days_1 (by decide) ?_
  have := mz_hi x1
  refine mv_icmp_ltZ (tgt := 23) (a := x1.toInt) (b := 1) d_TrustDesk_days_2 (by decide) rfl (by decide) (fun b1 => ?_) (fun b1 => ?_)
  · refine mv_iconst (v := (-1)) d_TrustDesk_days_23 (by decide) ?_
    exact mv_iret d_TrustDesk_days_24 rfl (by first | rfl | decide) ⟨_, I0, _, rfl, Or.inl ⟨rfl, by omega, yt⟩⟩
  · refine mv_iload_n d_TrustDesk_days_5 rfl rfl ?_
    refine mv_sipush (v := 720) d_TrustDesk_days_6 (by decide) ?_
    have := mz_hi x1
    refine mv_icmp_gtZ (tgt := 23) (a := x1.toInt) (b := 720) d_TrustDesk_days_9 (by decide) rfl (by decide) (fun b2 => ?_) (fun b2 => ?_)
    · refine mv_iconst (v := (-1)) d_TrustDesk_days_23 (by decide) ?_
      exact mv_iret d_TrustDesk_days_24 rfl (by first | rfl | decide) ⟨_, I0, _, rfl, Or.inl ⟨rfl, by omega, yt⟩⟩
    · refine mv_aload_n d_TrustDesk_days_12 rfl rfl ?_
      refine tr_getK (k := 12) yt d_TrustDesk_days_13 f_TrustDesk_73_12 ?_
      refine mv_iload_n d_TrustDesk_days_16 rfl rfl ?_
      refine mv_iadd d_TrustDesk_days_17 ?_
      refine mv_ldc d_TrustDesk_days_18 k_TrustDesk_147 ?_
      have := mz_hi (t + x1)
      refine mv_icmp_leZ (tgt := 25) (a := (t + x1).toInt) (b := 36000) d_TrustDesk_days_20 (by decide) rfl (by decide) (fun b3 => ?_) (fun b3 => ?_)
      · refine mv_aload_n d_TrustDesk_days_25 rfl rfl ?_
        refine tr_getK (k := 12) yt d_TrustDesk_days_26 f_TrustDesk_73_12 ?_
        refine mv_iload_n d_TrustDesk_days_29 rfl rfl ?_
        refine mv_iadd d_TrustDesk_days_30 ?_
        refine mv_istore_n (lv' := [(2, .int (t + x1)), (0, .ref o0), (1, .int x1)]) d_TrustDesk_days_31 rfl (by decide) rfl ?_
        refine mv_aload_n d_TrustDesk_days_32 rfl rfl ?_
        refine tr_getK (k := 12) yt d_TrustDesk_days_33 f_TrustDesk_73_12 ?_
        refine mv_sipush (v := 360) d_TrustDesk_days_36 (by decide) ?_
        refine mv_idiv d_TrustDesk_days_39 (by decide) ?_
        refine mv_istore_n (lv' := [(3, .int (t / 360)), (2, .int (t + x1)), (0, .ref o0), (1, .int x1)]) d_TrustDesk_days_40 rfl (by decide) rfl ?_
        have L41_4 : ∀ (k : Nat) (i3_4 : Int32) (T_4 : tm_H) (M_4 : mj_M) (n_4 : Nat), tm_I tm_FT (tm_in w_TrustDesk_days_x) x9 T0 M0 n0 T_4 M_4 n_4 → T_4 o0 = some (0, 12, 0) → tm_at M_4 o0 12 12 (.int t) → 2147483647 - i3_4.toInt < (k : Int) → mj_V g l kY_TrustDesk_days (d + 7) 41 [(3, .int i3_4), (2, .int (t + x1)), (0, .ref o0), (1, .int x1)] [] M_4 n_4 0 0 (tm_Q tm_FT (tm_in w_TrustDesk_days_x) x9 T0 M0 n0 (fun r _ M => ∃ v : Int32, r = some (.int v) ∧ ((v = -1 ∧ (x1.toInt < 1 ∨ 720 < x1.toInt ∨ 36000 < (t + x1).toInt) ∧ tm_at M o0 12 12 (.int t)) ∨ (v = t + x1 ∧ ¬ (x1.toInt < 1 ∨ 720 < x1.toInt ∨ 36000 < (t + x1).toInt) ∧ tm_at M o0 12 12 (.int (t + x1)))))) := by
          intro k4
          induction k4 with
          | zero =>
            intro i3_4 T_4 M_4 n_4 I_4 h_q0_4 kp0_4 hk4
            have := mz_hi i3_4
            omega
          | succ k4 ih4 =>
            intro i3_4 T_4 M_4 n_4 I_4 h_q0_4 kp0_4 hk4
            refine mv_iload_n d_TrustDesk_days_41 rfl rfl ?_
            refine mv_iload_n d_TrustDesk_days_42 rfl rfl ?_
            refine mv_sipush (v := 360) d_TrustDesk_days_43 (by decide) ?_
            refine mv_idiv d_TrustDesk_days_46 (by decide) ?_
            have := mz_hi i3_4
            have := mz_hi ((t + x1) / 360)
            refine mv_icmp_geZ (tgt := 61) (a := i3_4.toInt) (b := ((t + x1) / 360).toInt) d_TrustDesk_days_47 (by decide) rfl rfl (fun b5 => ?_) (fun b5 => ?_)
            · refine mv_aload_n d_TrustDesk_days_61 rfl rfl ?_
              refine mv_iload_n d_TrustDesk_days_62 rfl rfl ?_
              refine tr_putK tm_okF I_4 h_q0_4 (k := 12) rfl ⟨_, rfl⟩ (Or.inl (by decide)) d_TrustDesk_days_63 p_TrustDesk_73_12 rfl rfl (fun M6 I7 q8 K9 => ?_)
              refine mv_aload_n d_TrustDesk_days_66 rfl rfl ?_
              refine tr_getK (k := 12) q8 d_TrustDesk_days_67 f_TrustDesk_73_12 ?_
              exact mv_iret d_TrustDesk_days_70 rfl (by first | rfl | decide) ⟨_, I7, _, rfl, Or.inr ⟨rfl, by omega, q8⟩⟩
            · refine mv_aload_n d_TrustDesk_days_50 rfl rfl ?_
              refine mv_iload_n d_TrustDesk_days_51 rfl rfl ?_
              obtain ⟨_, b16, -⟩ := I_4.1 _ _ h_q0_4
              refine mv_callV (kc' := 0) (ks' := 0) (As := [.int i3_4]) (st9 := [.int i3_4, .ref o0]) d_TrustDesk_days_52 lV_TrustDesk_148 b16 rfl (tc_TrustDesk_closeYear (d := d) (x9 := x9) (o0 := o0) (x1 := i3_4) h_q0_4 I_4.start) rfl (Nat.le_of_ble_eq_true rfl) (Nat.le_of_ble_eq_true rfl) (Nat.le_of_ble_eq_true rfl) (hst := rfl) (fun b10r M11 n12 b10 => ?_)
              obtain ⟨T13, J14, rfl⟩ := b10
              have I15 := I_4.call J14 (tm_sub (by decide)) (Or.inl rfl)
              have t17 := J14.up h_q0_4
              have q18 := J14.keep h_q0_4 (by decide) kp0_4
              refine mv_iinc (v := (i3_4 + 1)) (lv' := [(3, .int (i3_4 + 1)), (2, .int (t + x1)), (0, .ref o0), (1, .int x1)]) d_TrustDesk_days_55 rfl rfl (by decide) rfl ?_
              refine mv_goto (tgt := 41) d_TrustDesk_days_58 (by decide) ?_
              have b19 : (i3_4 + 1).toInt = i3_4.toInt + 1 := mz_addn 1 1 (by decide) (by have := mz_lo i3_4; omega) (by have := mz_hi i3_4; omega)
              exact (ih4 (i3_4 + 1) T13 M11 n12 I15 t17 q18 (by omega))
        exact mv_less (Nat.zero_le _) (Nat.zero_le _) (L41_4 4294967296 (t / 360) T0 M0 n0 I0 h_o0 yt (by have := mz_lo (t / 360); omega))
      · refine mv_iconst (v := (-1)) d_TrustDesk_days_23 (by decide) ?_
        exact mv_iret d_TrustDesk_days_24 rfl (by first | rfl | decide) ⟨_, I0, _, rfl, Or.inl ⟨rfl, by omega, yt⟩⟩
