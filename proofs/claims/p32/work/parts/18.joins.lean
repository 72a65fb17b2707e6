/-! funds that are joined: what the lists of ends hold together -/
theorem tm_lne {T : tm_H} {a b c c1 o o1 : Nat} (ha : T a = some (3, c, o)) (hb : T b = some (3, c1, o1)) (h : o ≠ o1) : a ≠ b := by
  intro e
  subst e
  cases ha.symm.trans hb
  exact h rfl
theorem tm_lnc {T : tm_H} {a b c c1 o o1 : Nat} (ha : T a = some (3, c, o)) (hb : T b = some (3, c1, o1)) (h : Nat.beq c c1 = false) : a ≠ b := by
  intro e
  subst e
  cases ha.symm.trans hb
  rw [Nat.beq_refl] at h
  cases h
theorem tm_at.fnI {M : mj_M} {a c k : Nat} {v w : Int32} (h : tm_at M a c k (.int v)) (h1 : tm_at M a c k (.int w)) : v = w := by
  obtain ⟨fs, e1, e2⟩ := h
  obtain ⟨fs1, e3, e4⟩ := h1
  cases e1.symm.trans e3
  cases e2.symm.trans e4
  rfl
/-- two free funds of the list have together at most 72 ends -/
def tm_D (M : mj_M) (L : Nat) : Prop := ∀ (i j bi bj ei ej : Nat) (si sj : Int32), i ≠ j → tm_ge M L i bi → tm_ge M L j bj → tm_at M bi 6 8 (.int (-1)) → tm_at M bj 6 8 (.int (-1)) → tm_at M bi 6 11 (.ref ei) → tm_at M bj 6 11 (.ref ej) → tm_at M ei 0 2 (.int si) → tm_at M ej 0 2 (.int sj) → si.toInt + sj.toInt ≤ 72
/-- behind a settling: no list of ends and no fund's joinedTo is another, or one free fund is joined to another one -/
def tm_JR (T0 : tm_H) (M0 M : mj_M) (L : Nat) : Prop := ((∀ (a o : Nat) (w : Value), T0 a = some (3, 3, o) → tm_at M0 a 0 2 w → tm_at M a 0 2 w) ∧ (∀ (a : Nat) (w : Value), T0 a = some (0, 6, 0) → tm_at M0 a 6 8 w → tm_at M a 6 8 w)) ∨
  ∃ (i j bi bj ei ej : Nat) (si sj s v : Int32), i ≠ j ∧ tm_ge M0 L i bi ∧ tm_ge M0 L j bj ∧ tm_at M0 bi 6 8 (.int (-1)) ∧ tm_at M0 bj 6 8 (.int (-1)) ∧ tm_at M0 bi 6 11 (.ref ei) ∧ tm_at M0 bj 6 11 (.ref ej) ∧ tm_at M0 ei 0 2 (.int si) ∧ tm_at M0 ej 0 2 (.int sj) ∧ 0 ≤ v.toInt ∧ s.toInt ≤ sj.toInt + si.toInt ∧ tm_at M ej 0 2 (.int s) ∧ tm_at M bi 6 8 (.int v) ∧
    (∀ (a o : Nat) (w : Value), T0 a = some (3, 3, o) → o ≠ bj → tm_at M0 a 0 2 w → tm_at M a 0 2 w) ∧ (∀ (a : Nat) (w : Value), T0 a = some (0, 6, 0) → a ≠ bi → tm_at M0 a 6 8 w → tm_at M a 6 8 w)
/-- behind a founding -/
def tm_FR (T0 : tm_H) (M0 : mj_M) (n0 : Nat) (T : tm_H) (M : mj_M) (L : Nat) : Prop := (∀ (a o : Nat) (w : Value), T0 a = some (3, 3, o) → o < n0 → tm_at M0 a 0 2 w → tm_at M a 0 2 w) ∧ (∀ (a : Nat) (w : Value), T0 a = some (0, 6, 0) → tm_at M0 a 6 8 w → tm_at M a 6 8 w) ∧ (∀ (i b : Nat), tm_ge M0 L i b → tm_ge M L i b) ∧
  ((∀ (w : Value), tm_at M0 L 0 2 w → tm_at M L 0 2 w) ∨ ∃ (b e : Nat) (n s v : Int32), tm_at M0 L 0 2 (.int n) ∧ tm_at M L 0 2 (.int (n + 1)) ∧ tm_ge M L n.toNatClampNeg b ∧ tm_at M b 6 0 (.int v) ∧ 0 ≤ v.toInt ∧ tm_at M b 6 11 (.ref e) ∧ T e = some (3, 3, b) ∧ tm_at M e 0 2 (.int s) ∧ s.toInt ≤ 6)
abbrev kY_Fund_takeOver : mj_Y := (⟨"TrustDesk$Fund", "takeOver", "(LTrustDesk$Fund;)V"⟩, prog_7_method_15_code, 3, (Option.none : Option Jvm.ClassFile.FieldType))
theorem d_Fund_takeOver_0 : decode kY_Fund_takeOver.2.1 0 = .ok (.aload_n 0, 1) := by decide +kernel
theorem d_Fund_takeOver_1 : decode kY_Fund_takeOver.2.1 1 = .ok (.aload_n 1, 1) := by decide +kernel
theorem d_Fund_takeOver_2 : decode kY_Fund_takeOver.2.1 2 = .ok (.getfield 49, 3) := by decide +kernel
theorem d_Fund_takeOver_5 : decode kY_Fund_takeOver.2.1 5 = .ok (.invokevirtual 90, 3) := by decide +kernel
theorem lV_Fund_90 : mj_lV "TrustDesk$Fund" 90 kY_Fund_receive 1 := ⟨⟨(mj_in1 (List.mem_of_getElem? (i := 1144) (by decide +kernel)) rfl), (mj_in1 (List.mem_of_getElem? (i := 21) (by decide +kernel)) rfl), (mj_in1 (List.mem_of_getElem? (i := 868) (by decide +kernel)) rfl), by decide, rfl, by decide⟩, (mj_in1 (List.mem_of_getElem? (i := 866) (by decide +kernel)) rfl), (mj_in1 (List.mem_of_getElem? (i := 867) (by decide +kernel)) rfl)⟩
theorem d_Fund_takeOver_8 : decode kY_Fund_takeOver.2.1 8 = .ok (.aload_n 0, 1) := by decide +kernel
theorem d_Fund_takeOver_9 : decode kY_Fund_takeOver.2.1 9 = .ok (.aload_n 0, 1) := by decide +kernel
theorem d_Fund_takeOver_10 : decode kY_Fund_takeOver.2.1 10 = .ok (.getfield 42, 3) := by decide +kernel
theorem d_Fund_takeOver_13 : decode kY_Fund_takeOver.2.1 13 = .ok (.aload_n 1, 1) := by decide +kernel
theorem d_Fund_takeOver_14 : decode kY_Fund_takeOver.2.1 14 = .ok (.getfield 42, 3) := by decide +kernel
theorem d_Fund_takeOver_17 : decode kY_Fund_takeOver.2.1 17 = .ok (.iadd, 1) := by decide +kernel
theorem d_Fund_takeOver_18 : decode kY_Fund_takeOver.2.1 18 = .ok (.sipush 999, 3) := by decide +kernel
theorem d_Fund_takeOver_21 : decode kY_Fund_takeOver.2.1 21 = .ok (.invokestatic 94, 3) := by decide +kernel
theorem d_Fund_takeOver_24 : decode kY_Fund_takeOver.2.1 24 = .ok (.putfield 42, 3) := by decide +kernel
theorem d_Fund_takeOver_27 : decode kY_Fund_takeOver.2.1 27 = .ok (.aload_n 0, 1) := by decide +kernel
theorem d_Fund_takeOver_28 : decode kY_Fund_takeOver.2.1 28 = .ok (.aload_n 0, 1) := by decide +kernel
theorem d_Fund_takeOver_29 : decode kY_Fund_takeOver.2.1 29 = .ok (.getfield 45, 3) := by decide +kernel
theorem d_Fund_takeOver_32 : decode kY_Fund_takeOver.2.1 32 = .ok (.aload_n 1, 1) := by decide +kernel
theorem d_Fund_takeOver_33 : decode kY_Fund_takeOver.2.1 33 = .ok (.getfield 45, 3) := by decide +kernel
theorem d_Fund_takeOver_36 : decode kY_Fund_takeOver.2.1 36 = .ok (.iadd, 1) := by decide +kernel
theorem d_Fund_takeOver_37 : decode kY_Fund_takeOver.2.1 37 = .ok (.ldc 97, 2) := by decide +kernel
theorem k_Fund_97 : Cond.constant "TrustDesk$Fund" 97 99999 ∈ mj_T := (mj_in1 (List.mem_of_getElem? (i := 1146) (by decide +kernel)) rfl)
theorem d_Fund_takeOver_39 : decode kY_Fund_takeOver.2.1 39 = .ok (.invokestatic 94, 3) := by decide +kernel
theorem d_Fund_takeOver_42 : decode kY_Fund_takeOver.2.1 42 = .ok (.putfield 45, 3) := by decide +kernel
theorem d_Fund_takeOver_45 : decode kY_Fund_takeOver.2.1 45 = .ok (.aload_n 0, 1) := by decide +kernel
theorem d_Fund_takeOver_46 : decode kY_Fund_takeOver.2.1 46 = .ok (.dup, 1) := by decide +kernel
theorem d_Fund_takeOver_47 : decode kY_Fund_takeOver.2.1 47 = .ok (.getfield 98, 3) := by decide +kernel
theorem f_Fund_98_6 : mj_fl "TrustDesk$Fund" 98 6 4 := ⟨kR_Fund, kF_Fund, 15, "TrustDesk$Fund", rfl, kg_6, by decide, (mj_in1 (List.mem_of_getElem? (i := 674) (by decide +kernel)) rfl), Or.inl rfl⟩
theorem d_Fund_takeOver_50 : decode kY_Fund_takeOver.2.1 50 = .ok (.aload_n 1, 1) := by decide +kernel
theorem d_Fund_takeOver_51 : decode kY_Fund_takeOver.2.1 51 = .ok (.getfield 98, 3) := by decide +kernel
theorem d_Fund_takeOver_54 : decode kY_Fund_takeOver.2.1 54 = .ok (.iand, 1) := by decide +kernel
theorem d_Fund_takeOver_55 : decode kY_Fund_takeOver.2.1 55 = .ok (.putfield 98, 3) := by decide +kernel
theorem p_Fund_98_6 : mj_fp "TrustDesk$Fund" 98 6 4 (kt_Fund 4) false := ⟨kR_Fund, kF_Fund, 15, "TrustDesk$Fund", kt_Fund, rfl, kg_6, by decide, (mj_in1 (List.mem_of_getElem? (i := 674) (by decide +kernel)) rfl), Or.inl rfl, kto_Fund, kn_Fund, rfl, rfl, fun h => by cases h⟩
theorem d_Fund_takeOver_58 : decode kY_Fund_takeOver.2.1 58 = .ok (.iconst 0, 1) := by decide +kernel
theorem d_Fund_takeOver_59 : decode kY_Fund_takeOver.2.1 59 = .ok (.istore_n 2, 1) := by decide +kernel
theorem d_Fund_takeOver_60 : decode kY_Fund_takeOver.2.1 60 = .ok (.iload_n 2, 1) := by decide +kernel
theorem d_Fund_takeOver_61 : decode kY_Fund_takeOver.2.1 61 = .ok (.aload_n 1, 1) := by decide +kernel
theorem d_Fund_takeOver_62 : decode kY_Fund_takeOver.2.1 62 = .ok (.getfield 24, 3) := by decide +kernel
theorem d_Fund_takeOver_65 : decode kY_Fund_takeOver.2.1 65 = .ok (.invokevirtual 61, 3) := by decide +kernel
theorem d_Fund_takeOver_68 : decode kY_Fund_takeOver.2.1 68 = .ok (.if_icmp .ge 49, 3) := by decide +kernel
theorem d_Fund_takeOver_117 : decode kY_Fund_takeOver.2.1 117 = .ok (.return_, 1) := by decide +kernel
theorem d_Fund_takeOver_71 : decode kY_Fund_takeOver.2.1 71 = .ok (.aload_n 1, 1) := by decide +kernel
theorem d_Fund_takeOver_72 : decode kY_Fund_takeOver.2.1 72 = .ok (.getfield 24, 3) := by decide +kernel
theorem d_Fund_takeOver_75 : decode kY_Fund_takeOver.2.1 75 = .ok (.iload_n 2, 1) := by decide +kernel
theorem d_Fund_takeOver_76 : decode kY_Fund_takeOver.2.1 76 = .ok (.invokevirtual 65, 3) := by decide +kernel
theorem d_Fund_takeOver_79 : decode kY_Fund_takeOver.2.1 79 = .ok (.checkcast 69, 3) := by decide +kernel
theorem d_Fund_takeOver_82 : decode kY_Fund_takeOver.2.1 82 = .ok (.getfield 80, 3) := by decide +kernel
theorem d_Fund_takeOver_85 : decode kY_Fund_takeOver.2.1 85 = .ok (.iconst 2, 1) := by decide +kernel
theorem d_Fund_takeOver_86 : decode kY_Fund_takeOver.2.1 86 = .ok (.if_icmp .eq 25, 3) := by decide +kernel
theorem d_Fund_takeOver_111 : decode kY_Fund_takeOver.2.1 111 = .ok (.iinc 2 1, 3) := by decide +kernel
theorem d_Fund_takeOver_114 : decode kY_Fund_takeOver.2.1 114 = .ok (.goto (-54), 3) := by decide +kernel
theorem d_Fund_takeOver_89 : decode kY_Fund_takeOver.2.1 89 = .ok (.aload_n 0, 1) := by decide +kernel
theorem d_Fund_takeOver_90 : decode kY_Fund_takeOver.2.1 90 = .ok (.getfield 24, 3) := by decide +kernel
theorem d_Fund_takeOver_93 : decode kY_Fund_takeOver.2.1 93 = .ok (.aload_n 1, 1) := by decide +kernel
theorem d_Fund_takeOver_94 : decode kY_Fund_takeOver.2.1 94 = .ok (.getfield 24, 3) := by decide +kernel
theorem d_Fund_takeOver_97 : decode kY_Fund_takeOver.2.1 97 = .ok (.iload_n 2, 1) := by decide +kernel
theorem d_Fund_takeOver_98 : decode kY_Fund_takeOver.2.1 98 = .ok (.invokevirtual 65, 3) := by decide +kernel
theorem d_Fund_takeOver_101 : decode kY_Fund_takeOver.2.1 101 = .ok (.checkcast 69, 3) := by decide +kernel
theorem d_Fund_takeOver_104 : decode kY_Fund_takeOver.2.1 104 = .ok (.invokevirtual 101, 3) := by decide +kernel
theorem lV_Fund_101 : mj_lV "TrustDesk$Fund" 101 kY_End_copy 0 := ⟨⟨(mj_in1 (List.mem_of_getElem? (i := 1147) (by decide +kernel)) rfl), (mj_in1 (List.mem_of_getElem? (i := 23) (by decide +kernel)) rfl), (mj_in1 (List.mem_of_getElem? (i := 1150) (by decide +kernel)) rfl), by decide, rfl, by decide⟩, (mj_in1 (List.mem_of_getElem? (i := 1148) (by decide +kernel)) rfl), (mj_in1 (List.mem_of_getElem? (i := 1149) (by decide +kernel)) rfl)⟩
theorem d_Fund_takeOver_107 : decode kY_Fund_takeOver.2.1 107 = .ok (.invokevirtual 105, 3) := by decide +kernel
theorem lV_Fund_105 : mj_lV "TrustDesk$Fund" 105 kY_ArrayList_add_0 1 := ⟨⟨(mj_in1 (List.mem_of_getElem? (i := 1153) (by decide +kernel)) rfl), (mj_in1 (List.mem_of_getElem? (i := 9) (by decide +kernel)) rfl), (mj_in1 (List.mem_of_getElem? (i := 562) (by decide +kernel)) rfl), by decide, rfl, by decide⟩, (mj_in1 (List.mem_of_getElem? (i := 560) (by decide +kernel)) rfl), (mj_in1 (List.mem_of_getElem? (i := 561) (by decide +kernel)) rfl)⟩
theorem d_Fund_takeOver_110 : decode kY_Fund_takeOver.2.1 110 = .ok (.pop, 1) := by decide +kernel
def w_Fund_takeOver_x : List Nat := [301, 302, 303, 601, 602, 603, 604, 5003]
theorem tc_Fund_takeOver_x {g : mj_G} {l : Launch} {d : Nat} {T0 : tm_H} {M0 : mj_M} {n0 x9 : Nat} {o0 : Nat} {o1 : Nat} (h_o0 : T0 o0 = some (0, 6, 0)) (h_o1 : T0 o1 = some (0, 6, 0)) {e0 e1 : Nat} {s0 s1 : Int32} (hne : o0 ≠ o1) (h_e0 : T0 e0 = some (3, 3, o0)) (h_e1 : T0 e1 = some (3, 3, o1)) (yq0 : tm_at M0 o0 6 11 (.ref e0)) (yq1 : tm_at M0 o1 6 11 (.ref e1)) (yz0 : tm_at M0 e0 0 2 (.int s0)) (yz1 : tm_at M0 e1 0 2 (.int s1)) (hs : s0.toInt + s1.toInt ≤ 72) (I0 : tm_I tm_FT (tm_in w_Fund_takeOver_x) x9 T0 M0 n0 T0 M0 n0) : mj_Met g l kY_Fund_takeOver (d + 7) [.ref o0, .ref o1] M0 n0 146 11534 (tm_Q tm_FT (tm_in w_Fund_takeOver_x) x9 T0 M0 n0 (fun r _ M => r = none ∧ (∃ s : Int32, tm_at M e0 0 2 (.int s) ∧ s.toInt ≤ s0.toInt + s1.toInt) ∧ (∀ (a o : Nat) (w : Value), T0 a = some (3, 3, o) → o ≠ o0 → tm_at M0 a 0 2 w → tm_at M a 0 2 w))) := by
  refine mj_enter (by decide) (Nat.le_of_ble_eq_true rfl) ?_
  obtain ⟨_, _, _, _, zz0⟩ := tm_lsn I0 h_e0 yz0
  have yp0 := zz0.2.1
  obtain ⟨_, _, _, _, zz1⟩ := tm_lsn I0 h_e1 yz1
  have yp1 := zz1.2.1
  have K0L : ∀ (a o : Nat) (w : Value), T0 a = some (3, 3, o) → o ≠ o0 → tm_at M0 a 0 2 w → tm_at M0 a 0 2 w := fun a o w h hx q => q
  refine mv_aload_n d_Fund_takeOver_0 rfl rfl ?_
  refine mv_aload_n d_Fund_takeOver_1 rfl rfl ?_
  obtain ⟨v2, q1⟩ := tm_atL I0 h_o1 (k := 3) rfl
  refine tr_getK q1 d_Fund_takeOver_2 f_Fund_49_6 ?_
  obtain ⟨_, b9, -⟩ := I0.1 _ _ h_o0
  refine mv_callV (kc' := 146) (ks' := 11534) (As := [.long v2]) (st9 := [.long v2, .ref o0]) d_Fund_takeOver_5 lV_Fund_90 b9 rfl (tc_Fund_receive (d := (d + 5)) (x9 := x9) (o0 := o0) (x1 := v2) h_o0 I0.start) rfl (Nat.le_of_ble_eq_true rfl) (Nat.le_of_ble_eq_true rfl) (Nat.le_of_ble_eq_true rfl) (hst := rfl) (fun b3r M4 n5 b3 => ?_)
  obtain ⟨T6, J7, rfl⟩ := b3
  have I8 := I0.call J7 (tm_sub (by decide)) (Or.inl rfl)
  have t10 := J7.up h_o0
  have t11 := J7.up h_o1
  have K12 : ∀ (a o : Nat) (w : Value), T0 a = some (3, 3, o) → o ≠ o0 → tm_at M0 a 0 2 w → tm_at M4 a 0 2 w := fun a o w h hx q => J7.keepL (I0.up h) (by decide) (K0L a o w h hx q)
  have q13 := J7.keep h_o0 (by decide) yq0
  have t14 := J7.up h_e0
  have q15 := J7.keepL h_e0 (by decide) yz0
  have q16 := J7.keep h_o1 (by decide) yq1
  have t17 := J7.up h_e1
  have q18 := J7.keepL h_e1 (by decide) yz1
  refine mv_aload_n d_Fund_takeOver_8 rfl rfl ?_
  refine mv_aload_n d_Fund_takeOver_9 rfl rfl ?_
  obtain ⟨v20, q19⟩ := tm_atI I8 t10 (k := 1) rfl
  refine tr_getK q19 d_Fund_takeOver_10 f_Fund_42_6 ?_
  refine mv_aload_n d_Fund_takeOver_13 rfl rfl ?_
  obtain ⟨v22, q21⟩ := tm_atI I8 t11 (k := 1) rfl
  refine tr_getK q21 d_Fund_takeOver_14 f_Fund_42_6 ?_
  refine mv_iadd d_Fund_takeOver_17 ?_
  refine mv_sipush (v := 999) d_Fund_takeOver_18 (by decide) ?_
  obtain ⟨v23, b24, _, _, _⟩ := mz_min9 (v20 + v22) 999
  have : (999 : Int32).toInt = 999 := by decide
  refine mv_mmin (v := v23) d_Fund_takeOver_21 (mj_in1 (List.mem_of_getElem? (i := 1145) (by decide +kernel)) rfl) (Nat.le_of_ble_eq_true rfl) b24 ?_
  refine tr_putKM tm_okF I8 t10 (k := 1) rfl ⟨_, rfl⟩ (Or.inl (by decide)) d_Fund_takeOver_24 p_Fund_42_6 rfl rfl (fun M25 I26 q27 K28 K28M => ?_)
  have K29 : ∀ (a o : Nat) (w : Value), T0 a = some (3, 3, o) → o ≠ o0 → tm_at M0 a 0 2 w → tm_at M25 a 0 2 w := fun a o w h hx q => K28 _ 0 2 _ rfl (K12 a o w h hx q)
  refine mv_aload_n d_Fund_takeOver_27 rfl rfl ?_
  refine mv_aload_n d_Fund_takeOver_28 rfl rfl ?_
  obtain ⟨v31, q30⟩ := tm_atI I26 t10 (k := 2) rfl
  refine tr_getK q30 d_Fund_takeOver_29 f_Fund_45_6 ?_
  refine mv_aload_n d_Fund_takeOver_32 rfl rfl ?_
  obtain ⟨v33, q32⟩ := tm_atI I26 t11 (k := 2) rfl
  refine tr_getK q32 d_Fund_takeOver_33 f_Fund_45_6 ?_
  refine mv_iadd d_Fund_takeOver_36 ?_
  refine mv_ldc d_Fund_takeOver_37 k_Fund_97 ?_
  obtain ⟨v34, b35, _, _, _⟩ := mz_min9 (v31 + v33) 99999
  have : (99999 : Int32).toInt = 99999 := by decide
  refine mv_mmin (v := v34) d_Fund_takeOver_39 (mj_in1 (List.mem_of_getElem? (i := 1145) (by decide +kernel)) rfl) (Nat.le_of_ble_eq_true rfl) b35 ?_
  refine tr_putKM tm_okF I26 t10 (k := 2) rfl ⟨_, rfl⟩ (Or.inl (by decide)) d_Fund_takeOver_42 p_Fund_45_6 rfl rfl (fun M36 I37 q38 K39 K39M => ?_)
  have K40 : ∀ (a o : Nat) (w : Value), T0 a = some (3, 3, o) → o ≠ o0 → tm_at M0 a 0 2 w → tm_at M36 a 0 2 w := fun a o w h hx q => K39 _ 0 2 _ rfl (K29 a o w h hx q)
  refine mv_aload_n d_Fund_takeOver_45 rfl rfl ?_
  refine mv_dup d_Fund_takeOver_46 rfl ?_
  obtain ⟨v42, q41⟩ := tm_atI I37 t10 (k := 4) rfl
  refine tr_getK q41 d_Fund_takeOver_47 f_Fund_98_6 ?_
  refine mv_aload_n d_Fund_takeOver_50 rfl rfl ?_
  obtain ⟨v44, q43⟩ := tm_atI I37 t11 (k := 4) rfl
  refine tr_getK q43 d_Fund_takeOver_51 f_Fund_98_6 ?_
  refine mv_iand d_Fund_takeOver_54 ?_
  refine tr_putKM tm_okF I37 t10 (k := 4) rfl ⟨_, rfl⟩ (Or.inl (by decide)) d_Fund_takeOver_55 p_Fund_98_6 rfl rfl (fun M45 I46 q47 K48 K48M => ?_)
  have K49 : ∀ (a o : Nat) (w : Value), T0 a = some (3, 3, o) → o ≠ o0 → tm_at M0 a 0 2 w → tm_at M45 a 0 2 w := fun a o w h hx q => K48 _ 0 2 _ rfl (K40 a o w h hx q)
  refine mv_iconst (v := 0) d_Fund_takeOver_58 (by decide) ?_
  refine mv_istore_n (lv' := [(2, .int 0), (0, .ref o0), (1, .ref o1)]) d_Fund_takeOver_59 rfl (by decide) rfl ?_
  have L60_50 : ∀ (k : Nat) (i2_50 : Int32) (g0_50 : Int32) (T_50 : tm_H) (M_50 : mj_M) (n_50 : Nat), tm_I tm_FT (tm_in w_Fund_takeOver_x) x9 T0 M0 n0 T_50 M_50 n_50 → T_50 o0 = some (0, 6, 0) → T_50 o1 = some (0, 6, 0) → T_50 e0 = some (3, 3, o0) → T_50 e1 = some (3, 3, o1) → 0 ≤ i2_50.toInt → i2_50.toInt ≤ s1.toInt → g0_50.toInt ≤ s0.toInt + i2_50.toInt → tm_at M_50 o0 6 11 (.ref e0) → tm_at M_50 o1 6 11 (.ref e1) → tm_at M_50 e1 0 2 (.int s1) → tm_at M_50 e0 0 2 (.int g0_50) → (∀ (a o : Nat) (w : Value), T0 a = some (3, 3, o) → o ≠ o0 → tm_at M0 a 0 2 w → tm_at M_50 a 0 2 w) → 72 - i2_50.toInt < (k : Int) → mj_V g l kY_Fund_takeOver (d + 7) 60 [(2, .int i2_50), (0, .ref o0), (1, .ref o1)] [] M_50 n_50 (k * 2) (k * 158) (tm_Q tm_FT (tm_in w_Fund_takeOver_x) x9 T0 M0 n0 (fun r _ M => r = none ∧ (∃ s : Int32, tm_at M e0 0 2 (.int s) ∧ s.toInt ≤ s0.toInt + s1.toInt) ∧ (∀ (a o : Nat) (w : Value), T0 a = some (3, 3, o) → o ≠ o0 → tm_at M0 a 0 2 w → tm_at M a 0 2 w))) := by
    intro k50
    induction k50 with
    | zero =>
      intro i2_50 g0_50 T_50 M_50 n_50 I_50 h_q0_50 h_q1_50 h_e0_50 h_e1_50 iv0_50 iv1_50 iv2_50 kp0_50 kp1_50 kp2_50 kg0_50 kKL_50 hk50
      have := mz_hi i2_50
      exfalso; omega
    | succ k50 ih50 =>
      intro i2_50 g0_50 T_50 M_50 n_50 I_50 h_q0_50 h_q1_50 h_e0_50 h_e1_50 iv0_50 iv1_50 iv2_50 kp0_50 kp1_50 kp2_50 kg0_50 kKL_50 hk50
      refine mv_iload_n d_Fund_takeOver_60 rfl rfl ?_
      refine mv_aload_n d_Fund_takeOver_61 rfl rfl ?_
      refine tr_getK (k := 11) kp1_50 d_Fund_takeOver_62 f_Fund_24_6 ?_
      obtain ⟨m52, e53, N54, f55, h51⟩ := tm_lsn I_50 h_e1_50 kp2_50
      refine mv_callV_s (kc' := (k50 * 2 + 2)) (ks' := (k50 * 158 + 158)) [] [.ref e1, .int i2_50] d_Fund_takeOver_65 lV_Fund_61 h51.1 rfl (tc_L_size (d := (d + 6)) h51.1) rfl (by first | exact Nat.le_of_ble_eq_true rfl | omega) (by first | exact Nat.le_of_ble_eq_true rfl | omega) (by first | exact Nat.le_of_ble_eq_true rfl | omega) rfl ?_
      have := mz_hi i2_50
      have := mz_hi s1
      refine mv_icmp_geZ (tgt := 117) (a := i2_50.toInt) (b := s1.toInt) d_Fund_takeOver_68 (by decide) rfl rfl (fun b56 => ?_) (fun b56 => ?_)
      · exact mv_vret d_Fund_takeOver_117 rfl ⟨_, I_50, rfl, ⟨_, kg0_50, by omega⟩, kKL_50⟩
      · refine mv_aload_n d_Fund_takeOver_71 rfl rfl ?_
        refine tr_getK (k := 11) kp1_50 d_Fund_takeOver_72 f_Fund_24_6 ?_
        refine mv_iload_n d_Fund_takeOver_75 rfl rfl ?_
        obtain ⟨m58, e59, N60, f61, h57⟩ := tm_lsn I_50 h_e1_50 kp2_50
        obtain ⟨u62e, u62i, a63, u62f, u62t⟩ := tm_el (i := i2_50) h57 (by omega) (by omega)
        have t_a63 : T_50 a63 = some (0, 3, 0) := u62t
        refine mv_callV_s (kc' := (k50 * 2 + 2)) (ks' := (k50 * 158 + 158)) [.int i2_50] [.int i2_50, .ref e1] d_Fund_takeOver_76 lV_Fund_65 h57.1 rfl (tc_L_get (d := (d + 4)) h57.1 u62e (by omega) (by omega) u62i u62f) rfl (by first | exact Nat.le_of_ble_eq_true rfl | omega) (by first | exact Nat.le_of_ble_eq_true rfl | omega) (by first | exact Nat.le_of_ble_eq_true rfl | omega) rfl ?_
        obtain ⟨_, b64, -⟩ := I_50.1 _ _ t_a63
        refine mv_castS (T9 := kF_End) (N := 4) d_Fund_takeOver_79 (mj_in1 (List.mem_of_getElem? (i := 751) (by decide +kernel)) rfl) b64 rfl ?_
        obtain ⟨v66, q65⟩ := tm_atI I_50 t_a63 (k := 1) rfl
        refine tr_getK q65 d_Fund_takeOver_82 f_Fund_80_3 ?_
        refine mv_iconst (v := 2) d_Fund_takeOver_85 (by decide) ?_
        have := mz_hi v66
        refine mv_icmp_eqZ (tgt := 111) (a := v66.toInt) (b := 2) d_Fund_takeOver_86 (by decide) rfl (by decide) (fun b67 => ?_) (fun b67 => ?_)
        · refine mv_iinc (v := (i2_50 + 1)) (lv' := [(2, .int (i2_50 + 1)), (0, .ref o0), (1, .ref o1)]) d_Fund_takeOver_111 rfl rfl (by decide) rfl ?_
          refine mv_goto (tgt := 60) d_Fund_takeOver_114 (by decide) ?_
          have b68 : (i2_50 + 1).toInt = i2_50.toInt + 1 := mz_addn 1 1 (by decide) (by have := mz_lo i2_50; omega) (by have := mz_hi i2_50; omega)
          exact mv_less (by omega) (by omega) (ih50 (i2_50 + 1) g0_50 T_50 M_50 n_50 I_50 h_q0_50 h_q1_50 h_e0_50 h_e1_50 (by first | omega | decide) (by first | omega | decide) (by first | omega | decide) kp0_50 kp1_50 kp2_50 kg0_50 kKL_50 (by omega))
        · refine mv_aload_n d_Fund_takeOver_89 rfl rfl ?_
          refine tr_getK (k := 11) kp0_50 d_Fund_takeOver_90 f_Fund_24_6 ?_
          refine mv_aload_n d_Fund_takeOver_93 rfl rfl ?_
          refine tr_getK (k := 11) kp1_50 d_Fund_takeOver_94 f_Fund_24_6 ?_
          refine mv_iload_n d_Fund_takeOver_97 rfl rfl ?_
          obtain ⟨m70, e71, N72, f73, h69⟩ := tm_lsn I_50 h_e1_50 kp2_50
          obtain ⟨u74e, u74i, a75, u74f, u74t⟩ := tm_el (i := i2_50) h69 (by omega) (by omega)
          have t_a75 : T_50 a75 = some (0, 3, 0) := u74t
          refine mv_callV_s (kc' := (k50 * 2 + 2)) (ks' := (k50 * 158 + 158)) [.int i2_50] [.int i2_50, .ref e1, .ref e0] d_Fund_takeOver_98 lV_Fund_65 h69.1 rfl (tc_L_get (d := (d + 4)) h69.1 u74e (by omega) (by omega) u74i u74f) rfl (by first | exact Nat.le_of_ble_eq_true rfl | omega) (by first | exact Nat.le_of_ble_eq_true rfl | omega) (by first | exact Nat.le_of_ble_eq_true rfl | omega) rfl ?_
          obtain ⟨_, b76, -⟩ := I_50.1 _ _ t_a75
          refine mv_castS (T9 := kF_End) (N := 4) d_Fund_takeOver_101 (mj_in1 (List.mem_of_getElem? (i := 751) (by decide +kernel)) rfl) b76 rfl ?_
          obtain ⟨_, b83, -⟩ := I_50.1 _ _ t_a75
          refine mv_callV (kc' := (k50 * 2 + 1)) (ks' := (k50 * 158 + 154)) (As := []) (st9 := [.ref a75, .ref e0]) d_Fund_takeOver_104 lV_Fund_101 b83 rfl (tc_End_copy (d := (d + 4)) (x9 := x9) (o0 := a75) t_a75 I_50.start) rfl (by first | exact Nat.le_of_ble_eq_true rfl | omega) (by first | exact Nat.le_of_ble_eq_true rfl | omega) (by first | exact Nat.le_of_ble_eq_true rfl | omega) (hst := rfl) (fun b77r M78 n79 b77 => ?_)
          obtain ⟨T80, J81, a84, rfl, t_a84⟩ := b77
          have I82 := I_50.call J81 (tm_sub (by decide)) (Or.inl rfl)
          have t85 := J81.up h_q0_50
          have t86 := J81.up h_q1_50
          have t87 := J81.up h_e0_50
          have K88 : ∀ (a o : Nat) (w : Value), T0 a = some (3, 3, o) → o ≠ o0 → tm_at M0 a 0 2 w → tm_at M78 a 0 2 w := fun a o w h hx q => J81.keepL (I_50.up h) (by decide) (kKL_50 a o w h hx q)
          have q89 := J81.keep h_q0_50 (by decide) kp0_50
          have q90 := J81.keep h_q1_50 (by decide) kp1_50
          have t91 := J81.up h_e1_50
          have q92 := J81.keepL h_e1_50 (by decide) kp2_50
          have q93 := J81.keepL h_e0_50 (by decide) kg0_50
          have : tm_mx 3 = 72 := rfl
          obtain ⟨m95, e96, N97, f98, h94⟩ := tm_lsn I82 t87 q93
          refine mv_callV (kc' := (k50 * 2 + 0)) (ks' := (k50 * 158 + 0)) (As := [.ref a84]) (st9 := [.ref a84, .ref e0]) d_Fund_takeOver_107 lV_Fund_105 h94.1 rfl (tc_AL_addK (FT := tm_FT) (W := tm_in [5003]) (x := x9) (d := d) tm_okF t87 t_a84 q93 (show _ < (72 : Int) by omega) rfl (C := "TrustDesk$End") (T9 := kF_End) (N9 := 4) rfl (mj_in1 (List.mem_of_getElem? (i := 2106) (by decide +kernel)) rfl) (by decide) (by decide) I82.start) rfl (by first | exact Nat.le_of_ble_eq_true rfl | omega) (by first | exact Nat.le_of_ble_eq_true rfl | omega) (by first | exact Nat.le_of_ble_eq_true rfl | omega) (hst := rfl) (fun b99r M100 n101 b99 => ?_)
          obtain ⟨T102, J103, rfl, q105, K106, K107, g108⟩ := b99
          have I104 := I82.call J103 (tm_sub (by decide)) (Or.inl rfl)
          have t109 := J103.up t87
          have t110 := J103.up t85
          have t111 := J103.up t86
          have q112 := J103.keep t85 (by decide) q89
          have q113 := J103.keep t86 (by decide) q90
          have t114 := J103.up t91
          have t115 := J103.up t91
          have q116 := tm_at.eq (K106 _ _ _ (tm_lne t91 t87 (Ne.symm hne)) t91) q92
          have K117 : ∀ (a o : Nat) (w : Value), T0 a = some (3, 3, o) → o ≠ o0 → tm_at M0 a 0 2 w → tm_at M100 a 0 2 w := fun a o w h hx q => tm_at.eq (K106 _ _ _ (tm_lne (I82.up h) t87 hx) (I82.up h)) (K88 a o w h hx q)
          have b118 : (g0_50 + 1).toInt = g0_50.toInt + 1 := mz_addn 1 1 (by decide) (by have := mz_lo g0_50; omega) (by omega)
          refine mv_pop d_Fund_takeOver_110 rfl ?_
          refine mv_iinc (v := (i2_50 + 1)) (lv' := [(2, .int (i2_50 + 1)), (0, .ref o0), (1, .ref o1)]) d_Fund_takeOver_111 rfl rfl (by decide) rfl ?_
          refine mv_goto (tgt := 60) d_Fund_takeOver_114 (by decide) ?_
          have b119 : (i2_50 + 1).toInt = i2_50.toInt + 1 := mz_addn 1 1 (by decide) (by have := mz_lo i2_50; omega) (by have := mz_hi i2_50; omega)
          exact mv_less (by omega) (by omega) (ih50 (i2_50 + 1) (g0_50 + 1) T102 M100 n101 I104 t110 t111 t109 t115 (by first | omega | decide) (by first | omega | decide) (by first | omega | decide) q112 q113 q116 q105 K117 (by omega))
  have : (0 : Int32).toInt = 0 := by decide
  exact mv_less (Nat.le_of_ble_eq_true rfl) (Nat.le_of_ble_eq_true rfl) (L60_50 73 0 s0 T6 M45 n5 I46 t10 t11 t14 t17 (by first | omega | decide) (by first | omega | decide) (by first | omega | decide) (K48 _ 6 11 _ rfl (K39 _ 6 11 _ rfl (K28 _ 6 11 _ rfl q13))) (K48 _ 6 11 _ rfl (K39 _ 6 11 _ rfl (K28 _ 6 11 _ rfl q16))) (K48 _ 0 2 _ rfl (K39 _ 0 2 _ rfl (K28 _ 0 2 _ rfl q18))) (K48 _ 0 2 _ rfl (K39 _ 0 2 _ rfl (K28 _ 0 2 _ rfl q15))) K49 (by show (72 - (0 : Int) : Int) < _; decide))
def w_Fund_giveUp_x : List Nat := [301, 601, 602, 603, 607, 608, 663]
theorem tc_Fund_giveUp_x {g : mj_G} {l : Launch} {d : Nat} {T0 : tm_H} {M0 : mj_M} {n0 x9 : Nat} {o0 : Nat} {x1 : Int32} (h_o0 : T0 o0 = some (0, 6, 0))  (I0 : tm_I tm_FT (tm_in w_Fund_giveUp_x) x9 T0 M0 n0 T0 M0 n0) : mj_Met g l kY_Fund_giveUp (d + 3) [.ref o0, .int x1] M0 n0 0 0 (tm_Q tm_FT (tm_in w_Fund_giveUp_x) x9 T0 M0 n0 (fun r _ M => r = none ∧ tm_at M o0 6 8 (.int x1) ∧ (∀ (a : Nat) (w : Value), T0 a = some (0, 6, 0) → a ≠ o0 → tm_at M0 a 6 8 w → tm_at M a 6 8 w))) := by
  refine mj_enter (by decide) (Nat.le_of_ble_eq_true rfl) ?_
  have K0J : ∀ (a : Nat) (w : Value), T0 a = some (0, 6, 0) → a ≠ o0 → tm_at M0 a 6 8 w → tm_at M0 a 6 8 w := fun a w h hx q => q
  refine mv_aload_n d_Fund_giveUp_0 rfl rfl ?_
  refine mv_iload_n d_Fund_giveUp_1 rfl rfl ?_
  refine tr_putKM tm_okF I0 h_o0 (k := 8) rfl ⟨_, rfl⟩ (Or.inl (by decide)) d_Fund_giveUp_2 p_Fund_18_6 rfl rfl (fun M1 I2 q3 K4 K4M => ?_)
  have K5 : ∀ (a : Nat) (w : Value), T0 a = some (0, 6, 0) → a ≠ o0 → tm_at M0 a 6 8 w → tm_at M1 a 6 8 w := fun a w h hx q => tm_at.eq (K4M _ hx) (K0J a w h hx q)
  refine mv_aload_n d_Fund_giveUp_5 rfl rfl ?_
  refine mv_lconst (v := 0) d_Fund_giveUp_6 (by decide) ?_
  refine tr_putKM tm_okF I2 h_o0 (k := 3) rfl ⟨_, rfl⟩ (Or.inl (by decide)) d_Fund_giveUp_7 p_Fund_49_6 rfl rfl (fun M6 I7 q8 K9 K9M => ?_)
  have K10 : ∀ (a : Nat) (w : Value), T0 a = some (0, 6, 0) → a ≠ o0 → tm_at M0 a 6 8 w → tm_at M6 a 6 8 w := fun a w h hx q => K9 _ 6 8 _ rfl (K5 a w h hx q)
  refine mv_aload_n d_Fund_giveUp_10 rfl rfl ?_
  refine mv_iconst (v := 0) d_Fund_giveUp_11 (by decide) ?_
  refine tr_putKM tm_okF I7 h_o0 (k := 1) rfl ⟨_, rfl⟩ (Or.inl (by decide)) d_Fund_giveUp_12 p_Fund_42_6 rfl rfl (fun M11 I12 q13 K14 K14M => ?_)
  have K15 : ∀ (a : Nat) (w : Value), T0 a = some (0, 6, 0) → a ≠ o0 → tm_at M0 a 6 8 w → tm_at M11 a 6 8 w := fun a w h hx q => K14 _ 6 8 _ rfl (K10 a w h hx q)
  refine mv_aload_n d_Fund_giveUp_15 rfl rfl ?_
  refine mv_iconst (v := 0) d_Fund_giveUp_16 (by decide) ?_
  refine tr_putKM tm_okF I12 h_o0 (k := 2) rfl ⟨_, rfl⟩ (Or.inl (by decide)) d_Fund_giveUp_17 p_Fund_45_6 rfl rfl (fun M16 I17 q18 K19 K19M => ?_)
  have K20 : ∀ (a : Nat) (w : Value), T0 a = some (0, 6, 0) → a ≠ o0 → tm_at M0 a 6 8 w → tm_at M16 a 6 8 w := fun a w h hx q => K19 _ 6 8 _ rfl (K15 a w h hx q)
  refine mv_aload_n d_Fund_giveUp_20 rfl rfl ?_
  refine mv_iconst (v := 0) d_Fund_giveUp_21 (by decide) ?_
  refine tr_putKM tm_okF I17 h_o0 (k := 7) rfl ⟨_, rfl⟩ (Or.inl (by decide)) d_Fund_giveUp_22 p_Fund_87_6 rfl rfl (fun M21 I22 q23 K24 K24M => ?_)
  have K25 : ∀ (a : Nat) (w : Value), T0 a = some (0, 6, 0) → a ≠ o0 → tm_at M0 a 6 8 w → tm_at M21 a 6 8 w := fun a w h hx q => K24 _ 6 8 _ rfl (K20 a w h hx q)
  refine mv_iconst (v := 0) d_Fund_giveUp_25 (by decide) ?_
  refine mv_istore_n (lv' := [(2, .int 0), (0, .ref o0), (1, .int x1)]) d_Fund_giveUp_26 rfl (by decide) rfl ?_
  have L27_26 : ∀ (k : Nat) (i2_26 : Int32) (T_26 : tm_H) (M_26 : mj_M) (n_26 : Nat), tm_I tm_FT (tm_in w_Fund_giveUp_x) x9 T0 M0 n0 T_26 M_26 n_26 → T_26 o0 = some (0, 6, 0) → 0 ≤ i2_26.toInt → tm_at M_26 o0 6 8 (.int x1) → (∀ (a : Nat) (w : Value), T0 a = some (0, 6, 0) → a ≠ o0 → tm_at M0 a 6 8 w → tm_at M_26 a 6 8 w) → 2147483647 - i2_26.toInt < (k : Int) → mj_V g l kY_Fund_giveUp (d + 3) 27 [(2, .int i2_26), (0, .ref o0), (1, .int x1)] [] M_26 n_26 0 0 (tm_Q tm_FT (tm_in w_Fund_giveUp_x) x9 T0 M0 n0 (fun r _ M => r = none ∧ tm_at M o0 6 8 (.int x1) ∧ (∀ (a : Nat) (w : Value), T0 a = some (0, 6, 0) → a ≠ o0 → tm_at M0 a 6 8 w → tm_at M a 6 8 w))) := by
    intro k26
    induction k26 with
    | zero =>
      intro i2_26 T_26 M_26 n_26 I_26 h_q0_26 iv0_26 kp0_26 kKJ_26 hk26
      have := mz_hi i2_26
      omega
    | succ k26 ih26 =>
      intro i2_26 T_26 M_26 n_26 I_26 h_q0_26 iv0_26 kp0_26 kKJ_26 hk26
      refine mv_iload_n d_Fund_giveUp_27 rfl rfl ?_
      refine mv_bipush (v := 100) d_Fund_giveUp_28 (by decide) ?_
      have := mz_hi i2_26
      refine mv_icmp_geZ (tgt := 46) (a := i2_26.toInt) (b := 100) d_Fund_giveUp_30 (by decide) rfl (by decide) (fun b27 => ?_) (fun b27 => ?_)
      · refine mv_iconst (v := 0) d_Fund_giveUp_46 (by decide) ?_
        refine mv_istore_n (lv' := [(2, .int 0), (0, .ref o0), (1, .int x1)]) d_Fund_giveUp_47 rfl (by decide) rfl ?_
        have L48_28 : ∀ (k : Nat) (i2_28 : Int32) (T_28 : tm_H) (M_28 : mj_M) (n_28 : Nat), tm_I tm_FT (tm_in w_Fund_giveUp_x) x9 T0 M0 n0 T_28 M_28 n_28 → T_28 o0 = some (0, 6, 0) → 0 ≤ i2_28.toInt → tm_at M_28 o0 6 8 (.int x1) → (∀ (a : Nat) (w : Value), T0 a = some (0, 6, 0) → a ≠ o0 → tm_at M0 a 6 8 w → tm_at M_28 a 6 8 w) → 2147483647 - i2_28.toInt < (k : Int) → mj_V g l kY_Fund_giveUp (d + 3) 48 [(2, .int i2_28), (0, .ref o0), (1, .int x1)] [] M_28 n_28 0 0 (tm_Q tm_FT (tm_in w_Fund_giveUp_x) x9 T0 M0 n0 (fun r _ M => r = none ∧ tm_at M o0 6 8 (.int x1) ∧ (∀ (a : Nat) (w : Value), T0 a = some (0, 6, 0) → a ≠ o0 → tm_at M0 a 6 8 w → tm_at M a 6 8 w))) := by
          intro k28
          induction k28 with
          | zero =>
            intro i2_28 T_28 M_28 n_28 I_28 h_q0_28 iv0_28 kp0_28 kKJ_28 hk28
            have := mz_hi i2_28
            omega
          | succ k28 ih28 =>
            intro i2_28 T_28 M_28 n_28 I_28 h_q0_28 iv0_28 kp0_28 kKJ_28 hk28
            refine mv_iload_n d_Fund_giveUp_48 rfl rfl ?_
            refine mv_aload_n d_Fund_giveUp_49 rfl rfl ?_
            obtain ⟨a30, q29, t_a30⟩ := tm_atO I_28 h_q0_28 (k := 11) rfl
            refine tr_getK q29 d_Fund_giveUp_50 f_Fund_24_6 ?_
            obtain ⟨m32, n36, e33, N34, f35, h31⟩ := I_28.1 _ _ t_a30
            have := h31.2.1
            have : n36.toInt ≤ 72 := h31.2.2.1
            have q37 : tm_at M_28 a30 0 2 (.int n36) := ⟨_, h31.1, rfl⟩
            refine mv_callV_s (kc' := 0) (ks' := 0) [] [.ref a30, .int i2_28] d_Fund_giveUp_53 lV_Fund_61 h31.1 rfl (tc_L_size (d := (d + 2)) h31.1) rfl (Nat.le_of_ble_eq_true rfl) (Nat.le_of_ble_eq_true rfl) (Nat.le_of_ble_eq_true rfl) rfl ?_
            have := mz_hi i2_28
            have := mz_hi n36
            refine mv_icmp_geZ (tgt := 80) (a := i2_28.toInt) (b := n36.toInt) d_Fund_giveUp_56 (by decide) rfl rfl (fun b38 => ?_) (fun b38 => ?_)
            · exact mv_vret d_Fund_giveUp_80 rfl ⟨_, I_28, rfl, kp0_28, kKJ_28⟩
            · refine mv_aload_n d_Fund_giveUp_59 rfl rfl ?_
              refine tr_getK (k := 11) q29 d_Fund_giveUp_60 f_Fund_24_6 ?_
              refine mv_iload_n d_Fund_giveUp_63 rfl rfl ?_
              obtain ⟨m40, e41, N42, f43, h39⟩ := tm_lsn I_28 t_a30 q37
              obtain ⟨u44e, u44i, a45, u44f, u44t⟩ := tm_el (i := i2_28) h39 (by omega) (by omega)
              have t_a45 : T_28 a45 = some (0, 3, 0) := u44t
              refine mv_callV_s (kc' := 0) (ks' := 0) [.int i2_28] [.int i2_28, .ref a30] d_Fund_giveUp_64 lV_Fund_65 h39.1 rfl (tc_L_get (d := d) h39.1 u44e (by omega) (by omega) u44i u44f) rfl (Nat.le_of_ble_eq_true rfl) (Nat.le_of_ble_eq_true rfl) (Nat.le_of_ble_eq_true rfl) rfl ?_
              obtain ⟨_, b46, -⟩ := I_28.1 _ _ t_a45
              refine mv_castS (T9 := kF_End) (N := 4) d_Fund_giveUp_67 (mj_in1 (List.mem_of_getElem? (i := 751) (by decide +kernel)) rfl) b46 rfl ?_
              refine mv_iconst (v := 2) d_Fund_giveUp_70 (by decide) ?_
              refine tr_putKM tm_okF I_28 t_a45 (k := 1) rfl ⟨_, rfl⟩ (Or.inl (by decide)) d_Fund_giveUp_71 p_Fund_80_3 rfl rfl (fun M47 I48 q49 K50 K50M => ?_)
              have K51 : ∀ (a : Nat) (w : Value), T0 a = some (0, 6, 0) → a ≠ o0 → tm_at M0 a 6 8 w → tm_at M47 a 6 8 w := fun a w h hx q => K50 _ 6 8 _ rfl (kKJ_28 a w h hx q)
              refine mv_iinc (v := (i2_28 + 1)) (lv' := [(2, .int (i2_28 + 1)), (0, .ref o0), (1, .int x1)]) d_Fund_giveUp_74 rfl rfl (by decide) rfl ?_
              refine mv_goto (tgt := 48) d_Fund_giveUp_77 (by decide) ?_
              have b52 : (i2_28 + 1).toInt = i2_28.toInt + 1 := mz_addn 1 1 (by decide) (by have := mz_lo i2_28; omega) (by have := mz_hi i2_28; omega)
              exact (ih28 (i2_28 + 1) T_28 M47 n_28 I48 h_q0_28 (by first | omega | decide) (K50 _ 6 8 _ rfl kp0_28) K51 (by omega))
        exact mv_less (Nat.zero_le _) (Nat.zero_le _) (L48_28 4294967296 0 T_26 M_26 n_26 I_26 h_q0_26 (by first | omega | decide) kp0_26 kKJ_26 (by show (2147483647 - (0 : Int) : Int) < _; decide))
      · refine mv_aload_n d_Fund_giveUp_33 rfl rfl ?_
        obtain ⟨a54, q53, t_a54⟩ := tm_atR I_26 h_q0_26 (k := 13) rfl
        refine tr_getK q53 d_Fund_giveUp_34 f_Fund_32_6 ?_
        refine mv_iload_n d_Fund_giveUp_37 rfl rfl ?_
        refine mv_iconst (v := 0) d_Fund_giveUp_38 (by decide) ?_
        refine tr_zastK tm_okF I_26 t_a54 (by decide) (Or.inl (by decide)) d_Fund_giveUp_39 (vp_in_iff.mpr (by omega)) (fun M55 I56 K57 => ?_)
        have K58 : ∀ (a : Nat) (w : Value), T0 a = some (0, 6, 0) → a ≠ o0 → tm_at M0 a 6 8 w → tm_at M55 a 6 8 w := fun a w h hx q => K57 _ 6 8 _ (kKJ_26 a w h hx q)
        refine mv_iinc (v := (i2_26 + 1)) (lv' := [(2, .int (i2_26 + 1)), (0, .ref o0), (1, .int x1)]) d_Fund_giveUp_40 rfl rfl (by decide) rfl ?_
        refine mv_goto (tgt := 27) d_Fund_giveUp_43 (by decide) ?_
        have b59 : (i2_26 + 1).toInt = i2_26.toInt + 1 := mz_addn 1 1 (by decide) (by have := mz_lo i2_26; omega) (by have := mz_hi i2_26; omega)
        exact (ih26 (i2_26 + 1) T_26 M55 n_26 I56 h_q0_26 (by first | omega | decide) (K57 _ 6 8 _ kp0_26) K58 (by omega))
  exact mv_less (Nat.zero_le _) (Nat.zero_le _) (L27_26 4294967296 0 T0 M21 n0 I22 h_o0 (by first | omega | decide) (K24 _ 6 8 _ rfl (K19 _ 6 8 _ rfl (K14 _ 6 8 _ rfl (K9 _ 6 8 _ rfl q3)))) K25 (by show (2147483647 - (0 : Int) : Int) < _; decide))
abbrev kY_TrustDesk_settle : mj_Y := (⟨"TrustDesk", "settle", "(I)I"⟩, prog_1_method_24_code, 4, (Option.some Jvm.ClassFile.FieldType.int))
theorem d_TrustDesk_settle_0 : decode kY_TrustDesk_settle.2.1 0 = .ok (.aload_n 0, 1) := by decide +kernel
theorem d_TrustDesk_settle_1 : decode kY_TrustDesk_settle.2.1 1 = .ok (.iload_n 1, 1) := by decide +kernel
theorem d_TrustDesk_settle_2 : decode kY_TrustDesk_settle.2.1 2 = .ok (.invokevirtual 280, 3) := by decide +kernel
theorem d_TrustDesk_settle_5 : decode kY_TrustDesk_settle.2.1 5 = .ok (.astore_n 2, 1) := by decide +kernel
theorem d_TrustDesk_settle_6 : decode kY_TrustDesk_settle.2.1 6 = .ok (.aload_n 2, 1) := by decide +kernel
theorem d_TrustDesk_settle_7 : decode kY_TrustDesk_settle.2.1 7 = .ok (.ifnull 21, 3) := by decide +kernel
theorem d_TrustDesk_settle_28 : decode kY_TrustDesk_settle.2.1 28 = .ok (.iconst (-1), 1) := by decide +kernel
theorem d_TrustDesk_settle_29 : decode kY_TrustDesk_settle.2.1 29 = .ok (.ireturn, 1) := by decide +kernel
theorem d_TrustDesk_settle_10 : decode kY_TrustDesk_settle.2.1 10 = .ok (.aload_n 2, 1) := by decide +kernel
theorem d_TrustDesk_settle_11 : decode kY_TrustDesk_settle.2.1 11 = .ok (.getfield 284, 3) := by decide +kernel
theorem d_TrustDesk_settle_14 : decode kY_TrustDesk_settle.2.1 14 = .ok (.ifCond .ne 14, 3) := by decide +kernel
theorem d_TrustDesk_settle_17 : decode kY_TrustDesk_settle.2.1 17 = .ok (.aload_n 0, 1) := by decide +kernel
theorem d_TrustDesk_settle_18 : decode kY_TrustDesk_settle.2.1 18 = .ok (.getfield 73, 3) := by decide +kernel
theorem d_TrustDesk_settle_21 : decode kY_TrustDesk_settle.2.1 21 = .ok (.aload_n 2, 1) := by decide +kernel
theorem d_TrustDesk_settle_22 : decode kY_TrustDesk_settle.2.1 22 = .ok (.getfield 285, 3) := by decide +kernel
theorem d_TrustDesk_settle_25 : decode kY_TrustDesk_settle.2.1 25 = .ok (.if_icmp .gt 5, 3) := by decide +kernel
theorem d_TrustDesk_settle_30 : decode kY_TrustDesk_settle.2.1 30 = .ok (.aload_n 0, 1) := by decide +kernel
theorem d_TrustDesk_settle_31 : decode kY_TrustDesk_settle.2.1 31 = .ok (.aload_n 2, 1) := by decide +kernel
theorem d_TrustDesk_settle_32 : decode kY_TrustDesk_settle.2.1 32 = .ok (.invokevirtual 314, 3) := by decide +kernel
theorem lV_TrustDesk_314 : mj_lV "TrustDesk" 314 kY_TrustDesk_failureOf 1 := ⟨⟨(mj_in1 (List.mem_of_getElem? (i := 1053) (by decide +kernel)) rfl), (mj_in1 (List.mem_of_getElem? (i := 1) (by decide +kernel)) rfl), (mj_in1 (List.mem_of_getElem? (i := 1056) (by decide +kernel)) rfl), by decide, rfl, by decide⟩, (mj_in1 (List.mem_of_getElem? (i := 1055) (by decide +kernel)) rfl), (mj_in (List.mem_append_left _ (List.mem_of_getElem? (i := 54) (by decide +kernel))) rfl)⟩
theorem d_TrustDesk_settle_35 : decode kY_TrustDesk_settle.2.1 35 = .ok (.istore_n 3, 1) := by decide +kernel
theorem d_TrustDesk_settle_36 : decode kY_TrustDesk_settle.2.1 36 = .ok (.aload_n 2, 1) := by decide +kernel
theorem d_TrustDesk_settle_37 : decode kY_TrustDesk_settle.2.1 37 = .ok (.iload_n 3, 1) := by decide +kernel
theorem d_TrustDesk_settle_38 : decode kY_TrustDesk_settle.2.1 38 = .ok (.putfield 318, 3) := by decide +kernel
theorem p_TrustDesk_318_11 : mj_fp "TrustDesk" 318 11 6 (kt_Scheme 6) false := ⟨kR_Scheme, kF_Scheme, 12, "TrustDesk$Scheme", kt_Scheme, rfl, kg_11, by decide, (mj_in1 (List.mem_of_getElem? (i := 979) (by decide +kernel)) rfl), Or.inl rfl, kto_Scheme, kn_Scheme, rfl, rfl, fun h => by cases h⟩
theorem d_TrustDesk_settle_41 : decode kY_TrustDesk_settle.2.1 41 = .ok (.aload_n 2, 1) := by decide +kernel
theorem d_TrustDesk_settle_42 : decode kY_TrustDesk_settle.2.1 42 = .ok (.iload_n 3, 1) := by decide +kernel
theorem d_TrustDesk_settle_43 : decode kY_TrustDesk_settle.2.1 43 = .ok (.ifCond .ne 7, 3) := by decide +kernel
theorem d_TrustDesk_settle_50 : decode kY_TrustDesk_settle.2.1 50 = .ok (.iconst 2, 1) := by decide +kernel
theorem d_TrustDesk_settle_51 : decode kY_TrustDesk_settle.2.1 51 = .ok (.putfield 284, 3) := by decide +kernel
theorem p_TrustDesk_284_11 : mj_fp "TrustDesk" 284 11 5 (kt_Scheme 5) false := ⟨kR_Scheme, kF_Scheme, 12, "TrustDesk$Scheme", kt_Scheme, rfl, kg_11, by decide, (mj_in1 (List.mem_of_getElem? (i := 978) (by decide +kernel)) rfl), Or.inl rfl, kto_Scheme, kn_Scheme, rfl, rfl, fun h => by cases h⟩
theorem d_TrustDesk_settle_54 : decode kY_TrustDesk_settle.2.1 54 = .ok (.iload_n 3, 1) := by decide +kernel
theorem d_TrustDesk_settle_55 : decode kY_TrustDesk_settle.2.1 55 = .ok (.ifCond .ne 8, 3) := by decide +kernel
theorem d_TrustDesk_settle_63 : decode kY_TrustDesk_settle.2.1 63 = .ok (.iload_n 3, 1) := by decide +kernel
theorem d_TrustDesk_settle_64 : decode kY_TrustDesk_settle.2.1 64 = .ok (.ireturn, 1) := by decide +kernel
theorem d_TrustDesk_settle_46 : decode kY_TrustDesk_settle.2.1 46 = .ok (.iconst 1, 1) := by decide +kernel
theorem d_TrustDesk_settle_47 : decode kY_TrustDesk_settle.2.1 47 = .ok (.goto 4, 3) := by decide +kernel
theorem d_TrustDesk_settle_58 : decode kY_TrustDesk_settle.2.1 58 = .ok (.aload_n 0, 1) := by decide +kernel
theorem d_TrustDesk_settle_59 : decode kY_TrustDesk_settle.2.1 59 = .ok (.aload_n 2, 1) := by decide +kernel
theorem d_TrustDesk_settle_60 : decode kY_TrustDesk_settle.2.1 60 = .ok (.invokevirtual 321, 3) := by decide +kernel
abbrev kY_TrustDesk_carryOut : mj_Y := (⟨"TrustDesk", "carryOut", "(LTrustDesk$Scheme;)V"⟩, prog_1_method_31_code, 3, (Option.none : Option Jvm.ClassFile.FieldType))
theorem lV_TrustDesk_321 : mj_lV "TrustDesk" 321 kY_TrustDesk_carryOut 1 := ⟨⟨(mj_in1 (List.mem_of_getElem? (i := 1113) (by decide +kernel)) rfl), (mj_in1 (List.mem_of_getElem? (i := 1) (by decide +kernel)) rfl), (mj_in1 (List.mem_of_getElem? (i := 1116) (by decide +kernel)) rfl), by decide, rfl, by decide⟩, (mj_in1 (List.mem_of_getElem? (i := 1115) (by decide +kernel)) rfl), (mj_in (List.mem_append_left _ (List.mem_of_getElem? (i := 60) (by decide +kernel))) rfl)⟩
theorem d_TrustDesk_carryOut_0 : decode kY_TrustDesk_carryOut.2.1 0 = .ok (.aload_n 0, 1) := by decide +kernel
theorem d_TrustDesk_carryOut_1 : decode kY_TrustDesk_carryOut.2.1 1 = .ok (.aload_n 1, 1) := by decide +kernel
theorem d_TrustDesk_carryOut_2 : decode kY_TrustDesk_carryOut.2.1 2 = .ok (.getfield 302, 3) := by decide +kernel
theorem d_TrustDesk_carryOut_5 : decode kY_TrustDesk_carryOut.2.1 5 = .ok (.invokevirtual 257, 3) := by decide +kernel
theorem d_TrustDesk_carryOut_8 : decode kY_TrustDesk_carryOut.2.1 8 = .ok (.astore_n 2, 1) := by decide +kernel
theorem d_TrustDesk_carryOut_9 : decode kY_TrustDesk_carryOut.2.1 9 = .ok (.aload_n 2, 1) := by decide +kernel
theorem d_TrustDesk_carryOut_10 : decode kY_TrustDesk_carryOut.2.1 10 = .ok (.ifnonnull 4, 3) := by decide +kernel
theorem d_TrustDesk_carryOut_13 : decode kY_TrustDesk_carryOut.2.1 13 = .ok (.return_, 1) := by decide +kernel
theorem d_TrustDesk_carryOut_14 : decode kY_TrustDesk_carryOut.2.1 14 = .ok (.aload_n 1, 1) := by decide +kernel
theorem d_TrustDesk_carryOut_15 : decode kY_TrustDesk_carryOut.2.1 15 = .ok (.getfield 308, 3) := by decide +kernel
theorem d_TrustDesk_carryOut_18 : decode kY_TrustDesk_carryOut.2.1 18 = .ok (.tableswitch 70 0 2 #[26, 42, 58], 26) := by decide +kernel
theorem d_TrustDesk_carryOut_88 : decode kY_TrustDesk_carryOut.2.1 88 = .ok (.aload_n 0, 1) := by decide +kernel
theorem d_TrustDesk_carryOut_89 : decode kY_TrustDesk_carryOut.2.1 89 = .ok (.aload_n 2, 1) := by decide +kernel
theorem d_TrustDesk_carryOut_90 : decode kY_TrustDesk_carryOut.2.1 90 = .ok (.aload_n 1, 1) := by decide +kernel
theorem d_TrustDesk_carryOut_91 : decode kY_TrustDesk_carryOut.2.1 91 = .ok (.getfield 311, 3) := by decide +kernel
theorem d_TrustDesk_carryOut_94 : decode kY_TrustDesk_carryOut.2.1 94 = .ok (.invokevirtual 359, 3) := by decide +kernel
theorem d_TrustDesk_carryOut_97 : decode kY_TrustDesk_carryOut.2.1 97 = .ok (.invokevirtual 403, 3) := by decide +kernel
def w_TrustDesk_strike_n1 : List Nat := []
theorem tc_TrustDesk_strike_n1 {g : mj_G} {l : Launch} {d : Nat} {T0 : tm_H} {M0 : mj_M} {n0 x9 : Nat} {o0 : Nat} (h_o0 : T0 o0 = some (0, 12, 0)) (I0 : tm_I tm_FT (tm_in w_TrustDesk_strike_n1) x9 T0 M0 n0 T0 M0 n0) : mj_Met g l kY_TrustDesk_strike d [.ref o0, .null] M0 n0 0 0 (tm_Q tm_FT (tm_in w_TrustDesk_strike_n1) x9 T0 M0 n0 (fun r _ _ => r = none)) := by
  refine mj_enter (by decide) (Nat.le_of_ble_eq_true rfl) ?_
  refine mv_aload_nN d_TrustDesk_strike_0 rfl rfl ?_
  refine mv_ifnullN (tgt := 9) d_TrustDesk_strike_1 (by decide) ?_
  exact mv_vret d_TrustDesk_strike_9 rfl ⟨_, I0, rfl⟩
theorem lV_TrustDesk_403 : mj_lV "TrustDesk" 403 kY_TrustDesk_strike 1 := ⟨⟨(mj_in1 (List.mem_of_getElem? (i := 1162) (by decide +kernel)) rfl), (mj_in1 (List.mem_of_getElem? (i := 1) (by decide +kernel)) rfl), (mj_in1 (List.mem_of_getElem? (i := 1165) (by decide +kernel)) rfl), by decide, rfl, by decide⟩, (mj_in1 (List.mem_of_getElem? (i := 1164) (by decide +kernel)) rfl), (mj_in (List.mem_append_left _ (List.mem_of_getElem? (i := 65) (by decide +kernel))) rfl)⟩
theorem d_TrustDesk_carryOut_100 : decode kY_TrustDesk_carryOut.2.1 100 = .ok (.return_, 1) := by decide +kernel
theorem d_TrustDesk_carryOut_44 : decode kY_TrustDesk_carryOut.2.1 44 = .ok (.aload_n 0, 1) := by decide +kernel
theorem d_TrustDesk_carryOut_45 : decode kY_TrustDesk_carryOut.2.1 45 = .ok (.aload_n 2, 1) := by decide +kernel
theorem d_TrustDesk_carryOut_46 : decode kY_TrustDesk_carryOut.2.1 46 = .ok (.aload_n 0, 1) := by decide +kernel
theorem d_TrustDesk_carryOut_47 : decode kY_TrustDesk_carryOut.2.1 47 = .ok (.aload_n 1, 1) := by decide +kernel
theorem d_TrustDesk_carryOut_48 : decode kY_TrustDesk_carryOut.2.1 48 = .ok (.getfield 311, 3) := by decide +kernel
theorem d_TrustDesk_carryOut_51 : decode kY_TrustDesk_carryOut.2.1 51 = .ok (.invokevirtual 276, 3) := by decide +kernel
theorem d_TrustDesk_carryOut_54 : decode kY_TrustDesk_carryOut.2.1 54 = .ok (.invokevirtual 391, 3) := by decide +kernel
def w_TrustDesk_bringNear_n2 : List Nat := []
theorem tc_TrustDesk_bringNear_n2 {g : mj_G} {l : Launch} {d : Nat} {T0 : tm_H} {M0 : mj_M} {n0 x9 : Nat} {o0 : Nat} {o1 : Nat} (h_o0 : T0 o0 = some (0, 12, 0)) (h_o1 : T0 o1 = some (0, 6, 0)) (I0 : tm_I tm_FT (tm_in w_TrustDesk_bringNear_n2) x9 T0 M0 n0 T0 M0 n0) : mj_Met g l kY_TrustDesk_bringNear (d + 4) [.ref o0, .ref o1, .null] M0 n0 0 0 (tm_Q tm_FT (tm_in w_TrustDesk_bringNear_n2) x9 T0 M0 n0 (fun r _ _ => r = none)) := by
  refine mj_enter (by decide) (Nat.le_of_ble_eq_true rfl) ?_
  refine mv_aload_n d_TrustDesk_bringNear_0 rfl rfl ?_
  obtain ⟨_, b7, -⟩ := I0.1 _ _ h_o1
  refine mv_callV (kc' := 0) (ks' := 0) (As := []) (st9 := [.ref o1]) d_TrustDesk_bringNear_1 lV_TrustDesk_348 b7 rfl (tc_Fund_firstDead (d := d) (x9 := x9) (o0 := o1) h_o1 I0.start) rfl (Nat.le_of_ble_eq_true rfl) (Nat.le_of_ble_eq_true rfl) (Nat.le_of_ble_eq_true rfl) (hst := rfl) (fun b1r M2 n3 b1 => ?_)
  obtain ⟨T4, J5, b9⟩ := b1
  have I6 := I0.call J5 (tm_sub (by decide)) (Or.inl rfl)
  have t10 := J5.up h_o0
  have t11 := J5.up h_o1
  rcases b9 with rfl | ⟨a8, rfl, t_a8⟩
  · refine mv_astore_nN (lv' := [(3, .null), (0, .ref o0), (1, .ref o1), (2, .null)]) d_TrustDesk_bringNear_4 rfl (by decide) rfl ?_
    refine mv_aload_nN d_TrustDesk_bringNear_5 rfl rfl ?_
    refine mv_ifnullN (tgt := 13) d_TrustDesk_bringNear_6 (by decide) ?_
    exact mv_vret d_TrustDesk_bringNear_13 rfl ⟨_, I6, rfl⟩
  · refine mv_astore_n (lv' := [(3, .ref a8), (0, .ref o0), (1, .ref o1), (2, .null)]) d_TrustDesk_bringNear_4 rfl (by decide) rfl ?_
    refine mv_aload_n d_TrustDesk_bringNear_5 rfl rfl ?_
    refine mv_ifnull d_TrustDesk_bringNear_6 ?_
    refine mv_aload_nN d_TrustDesk_bringNear_9 rfl rfl ?_
    refine mv_ifnonnullN d_TrustDesk_bringNear_10 ?_
    exact mv_vret d_TrustDesk_bringNear_13 rfl ⟨_, I6, rfl⟩
theorem lV_TrustDesk_391 : mj_lV "TrustDesk" 391 kY_TrustDesk_bringNear 2 := ⟨⟨(mj_in1 (List.mem_of_getElem? (i := 1117) (by decide +kernel)) rfl), (mj_in1 (List.mem_of_getElem? (i := 1) (by decide +kernel)) rfl), (mj_in1 (List.mem_of_getElem? (i := 1120) (by decide +kernel)) rfl), by decide, rfl, by decide⟩, (mj_in1 (List.mem_of_getElem? (i := 1119) (by decide +kernel)) rfl), (mj_in (List.mem_append_left _ (List.mem_of_getElem? (i := 61) (by decide +kernel))) rfl)⟩
theorem d_TrustDesk_carryOut_57 : decode kY_TrustDesk_carryOut.2.1 57 = .ok (.goto 43, 3) := by decide +kernel
theorem d_TrustDesk_carryOut_60 : decode kY_TrustDesk_carryOut.2.1 60 = .ok (.aload_n 0, 1) := by decide +kernel
theorem d_TrustDesk_carryOut_61 : decode kY_TrustDesk_carryOut.2.1 61 = .ok (.aload_n 2, 1) := by decide +kernel
theorem d_TrustDesk_carryOut_62 : decode kY_TrustDesk_carryOut.2.1 62 = .ok (.aload_n 0, 1) := by decide +kernel
theorem d_TrustDesk_carryOut_63 : decode kY_TrustDesk_carryOut.2.1 63 = .ok (.aload_n 1, 1) := by decide +kernel
theorem d_TrustDesk_carryOut_64 : decode kY_TrustDesk_carryOut.2.1 64 = .ok (.getfield 311, 3) := by decide +kernel
theorem d_TrustDesk_carryOut_67 : decode kY_TrustDesk_carryOut.2.1 67 = .ok (.invokevirtual 257, 3) := by decide +kernel
theorem d_TrustDesk_carryOut_70 : decode kY_TrustDesk_carryOut.2.1 70 = .ok (.invokevirtual 395, 3) := by decide +kernel
abbrev kY_TrustDesk_join : mj_Y := (⟨"TrustDesk", "join", "(LTrustDesk$Fund;LTrustDesk$Fund;)V"⟩, prog_1_method_33_code, 7, (Option.none : Option Jvm.ClassFile.FieldType))
theorem lV_TrustDesk_395 : mj_lV "TrustDesk" 395 kY_TrustDesk_join 2 := ⟨⟨(mj_in1 (List.mem_of_getElem? (i := 1125) (by decide +kernel)) rfl), (mj_in1 (List.mem_of_getElem? (i := 1) (by decide +kernel)) rfl), (mj_in1 (List.mem_of_getElem? (i := 1128) (by decide +kernel)) rfl), by decide, rfl, by decide⟩, (mj_in1 (List.mem_of_getElem? (i := 1127) (by decide +kernel)) rfl), (mj_in (List.mem_append_left _ (List.mem_of_getElem? (i := 62) (by decide +kernel))) rfl)⟩
theorem d_TrustDesk_join_0 : decode kY_TrustDesk_join.2.1 0 = .ok (.aload_n 2, 1) := by decide +kernel
theorem d_TrustDesk_join_1 : decode kY_TrustDesk_join.2.1 1 = .ok (.ifnonnull 4, 3) := by decide +kernel
theorem d_TrustDesk_join_4 : decode kY_TrustDesk_join.2.1 4 = .ok (.return_, 1) := by decide +kernel
theorem d_TrustDesk_carryOut_73 : decode kY_TrustDesk_carryOut.2.1 73 = .ok (.goto 27, 3) := by decide +kernel
theorem d_TrustDesk_join_5 : decode kY_TrustDesk_join.2.1 5 = .ok (.aload_n 0, 1) := by decide +kernel
theorem d_TrustDesk_join_6 : decode kY_TrustDesk_join.2.1 6 = .ok (.aload_n 1, 1) := by decide +kernel
theorem d_TrustDesk_join_7 : decode kY_TrustDesk_join.2.1 7 = .ok (.invokevirtual 412, 3) := by decide +kernel
theorem lV_TrustDesk_412 : mj_lV "TrustDesk" 412 kY_TrustDesk_worthOf 1 := ⟨⟨(mj_in1 (List.mem_of_getElem? (i := 1129) (by decide +kernel)) rfl), (mj_in1 (List.mem_of_getElem? (i := 1) (by decide +kernel)) rfl), (mj_in1 (List.mem_of_getElem? (i := 1132) (by decide +kernel)) rfl), by decide, rfl, by decide⟩, (mj_in1 (List.mem_of_getElem? (i := 1131) (by decide +kernel)) rfl), (mj_in (List.mem_append_left _ (List.mem_of_getElem? (i := 63) (by decide +kernel))) rfl)⟩
theorem d_TrustDesk_join_10 : decode kY_TrustDesk_join.2.1 10 = .ok (.lstore_n 3, 1) := by decide +kernel
theorem d_TrustDesk_join_11 : decode kY_TrustDesk_join.2.1 11 = .ok (.aload_n 0, 1) := by decide +kernel
theorem d_TrustDesk_join_12 : decode kY_TrustDesk_join.2.1 12 = .ok (.aload_n 2, 1) := by decide +kernel
theorem d_TrustDesk_join_13 : decode kY_TrustDesk_join.2.1 13 = .ok (.invokevirtual 412, 3) := by decide +kernel
theorem d_TrustDesk_join_16 : decode kY_TrustDesk_join.2.1 16 = .ok (.lstore 5, 2) := by decide +kernel
theorem d_TrustDesk_join_18 : decode kY_TrustDesk_join.2.1 18 = .ok (.lload_n 3, 1) := by decide +kernel
theorem d_TrustDesk_join_19 : decode kY_TrustDesk_join.2.1 19 = .ok (.lconst 0, 1) := by decide +kernel
theorem d_TrustDesk_join_20 : decode kY_TrustDesk_join.2.1 20 = .ok (.lcmp, 1) := by decide +kernel
theorem d_TrustDesk_join_21 : decode kY_TrustDesk_join.2.1 21 = .ok (.ifCond .ne 15, 3) := by decide +kernel
theorem d_TrustDesk_join_36 : decode kY_TrustDesk_join.2.1 36 = .ok (.aload_n 2, 1) := by decide +kernel
theorem d_TrustDesk_join_37 : decode kY_TrustDesk_join.2.1 37 = .ok (.lload 5, 2) := by decide +kernel
theorem d_TrustDesk_join_39 : decode kY_TrustDesk_join.2.1 39 = .ok (.aload_n 1, 1) := by decide +kernel
theorem d_TrustDesk_join_40 : decode kY_TrustDesk_join.2.1 40 = .ok (.lload_n 3, 1) := by decide +kernel
theorem d_TrustDesk_join_41 : decode kY_TrustDesk_join.2.1 41 = .ok (.invokevirtual 416, 3) := by decide +kernel
theorem lV_TrustDesk_416 : mj_lV "TrustDesk" 416 kY_Fund_mixParts 3 := ⟨⟨(mj_in1 (List.mem_of_getElem? (i := 1136) (by decide +kernel)) rfl), (mj_in1 (List.mem_of_getElem? (i := 21) (by decide +kernel)) rfl), (mj_in1 (List.mem_of_getElem? (i := 1139) (by decide +kernel)) rfl), by decide, rfl, by decide⟩, (mj_in1 (List.mem_of_getElem? (i := 1137) (by decide +kernel)) rfl), (mj_in1 (List.mem_of_getElem? (i := 1138) (by decide +kernel)) rfl)⟩
theorem d_TrustDesk_join_44 : decode kY_TrustDesk_join.2.1 44 = .ok (.aload_n 2, 1) := by decide +kernel
theorem d_TrustDesk_join_45 : decode kY_TrustDesk_join.2.1 45 = .ok (.aload_n 1, 1) := by decide +kernel
theorem d_TrustDesk_join_46 : decode kY_TrustDesk_join.2.1 46 = .ok (.invokevirtual 420, 3) := by decide +kernel
theorem lV_TrustDesk_420 : mj_lV "TrustDesk" 420 kY_Fund_takeOver 1 := ⟨⟨(mj_in1 (List.mem_of_getElem? (i := 1140) (by decide +kernel)) rfl), (mj_in1 (List.mem_of_getElem? (i := 21) (by decide +kernel)) rfl), (mj_in1 (List.mem_of_getElem? (i := 1143) (by decide +kernel)) rfl), by decide, rfl, by decide⟩, (mj_in1 (List.mem_of_getElem? (i := 1141) (by decide +kernel)) rfl), (mj_in1 (List.mem_of_getElem? (i := 1142) (by decide +kernel)) rfl)⟩
theorem d_TrustDesk_join_49 : decode kY_TrustDesk_join.2.1 49 = .ok (.aload_n 1, 1) := by decide +kernel
theorem d_TrustDesk_join_50 : decode kY_TrustDesk_join.2.1 50 = .ok (.aload_n 2, 1) := by decide +kernel
theorem d_TrustDesk_join_51 : decode kY_TrustDesk_join.2.1 51 = .ok (.getfield 132, 3) := by decide +kernel
theorem d_TrustDesk_join_54 : decode kY_TrustDesk_join.2.1 54 = .ok (.invokevirtual 423, 3) := by decide +kernel
theorem lV_TrustDesk_423 : mj_lV "TrustDesk" 423 kY_Fund_giveUp 1 := ⟨⟨(mj_in1 (List.mem_of_getElem? (i := 1154) (by decide +kernel)) rfl), (mj_in1 (List.mem_of_getElem? (i := 21) (by decide +kernel)) rfl), (mj_in1 (List.mem_of_getElem? (i := 1157) (by decide +kernel)) rfl), by decide, rfl, by decide⟩, (mj_in1 (List.mem_of_getElem? (i := 1155) (by decide +kernel)) rfl), (mj_in1 (List.mem_of_getElem? (i := 1156) (by decide +kernel)) rfl)⟩
theorem d_TrustDesk_join_57 : decode kY_TrustDesk_join.2.1 57 = .ok (.return_, 1) := by decide +kernel
theorem d_TrustDesk_join_24 : decode kY_TrustDesk_join.2.1 24 = .ok (.lload 5, 2) := by decide +kernel
theorem d_TrustDesk_join_26 : decode kY_TrustDesk_join.2.1 26 = .ok (.lconst 0, 1) := by decide +kernel
theorem d_TrustDesk_join_27 : decode kY_TrustDesk_join.2.1 27 = .ok (.lcmp, 1) := by decide +kernel
theorem d_TrustDesk_join_28 : decode kY_TrustDesk_join.2.1 28 = .ok (.ifCond .ne 8, 3) := by decide +kernel
theorem d_TrustDesk_join_31 : decode kY_TrustDesk_join.2.1 31 = .ok (.lconst 1, 1) := by decide +kernel
theorem d_TrustDesk_join_32 : decode kY_TrustDesk_join.2.1 32 = .ok (.lstore_n 3, 1) := by decide +kernel
theorem d_TrustDesk_join_33 : decode kY_TrustDesk_join.2.1 33 = .ok (.lconst 1, 1) := by decide +kernel
theorem d_TrustDesk_join_34 : decode kY_TrustDesk_join.2.1 34 = .ok (.lstore 5, 2) := by decide +kernel
theorem d_TrustDesk_carryOut_76 : decode kY_TrustDesk_carryOut.2.1 76 = .ok (.aload_n 0, 1) := by decide +kernel
theorem d_TrustDesk_carryOut_77 : decode kY_TrustDesk_carryOut.2.1 77 = .ok (.aload_n 2, 1) := by decide +kernel
theorem d_TrustDesk_carryOut_78 : decode kY_TrustDesk_carryOut.2.1 78 = .ok (.aload_n 1, 1) := by decide +kernel
theorem d_TrustDesk_carryOut_79 : decode kY_TrustDesk_carryOut.2.1 79 = .ok (.getfield 311, 3) := by decide +kernel
theorem d_TrustDesk_carryOut_82 : decode kY_TrustDesk_carryOut.2.1 82 = .ok (.invokevirtual 399, 3) := by decide +kernel
theorem lV_TrustDesk_399 : mj_lV "TrustDesk" 399 kY_TrustDesk_sell 2 := ⟨⟨(mj_in1 (List.mem_of_getElem? (i := 1158) (by decide +kernel)) rfl), (mj_in1 (List.mem_of_getElem? (i := 1) (by decide +kernel)) rfl), (mj_in1 (List.mem_of_getElem? (i := 1161) (by decide +kernel)) rfl), by decide, rfl, by decide⟩, (mj_in1 (List.mem_of_getElem? (i := 1160) (by decide +kernel)) rfl), (mj_in (List.mem_append_left _ (List.mem_of_getElem? (i := 64) (by decide +kernel))) rfl)⟩
theorem d_TrustDesk_carryOut_85 : decode kY_TrustDesk_carryOut.2.1 85 = .ok (.goto 15, 3) := by decide +kernel
def w_TrustDesk_settle_x : List Nat := [300, 301, 302, 303, 601, 602, 603, 604, 607, 608, 662, 663, 1001, 1003, 1004, 1050, 1052, 1105, 1106, 5003]
theorem tc_TrustDesk_settle_x {g : mj_G} {l : Launch} {d : Nat} {T0 : tm_H} {M0 : mj_M} {n0 x9 : Nat} {o0 : Nat} {x1 : Int32} (h_o0 : T0 o0 = some (0, 12, 0)) {Lf : Nat} (h_Lf : T0 Lf = some (3, 6, o0)) (q_Lf : tm_at M0 o0 12 6 (.ref Lf)) (hD : tm_D M0 Lf) (hN : ∀ i b, tm_ge M0 Lf i b → ∃ v : Int32, tm_at M0 b 6 0 (.int v) ∧ 0 ≤ v.toInt) (I0 : tm_I tm_FT (tm_in w_TrustDesk_settle_x) x9 T0 M0 n0 T0 M0 n0) : mj_Met g l kY_TrustDesk_settle (d + 10) [.ref o0, .int x1] M0 n0 146 11534 (tm_Q tm_FT (tm_in w_TrustDesk_settle_x) x9 T0 M0 n0 (fun r _ M => ∃ v : Int32, r = some (.int v) ∧ tm_JR T0 M0 M Lf)) := by
  refine mj_enter (by decide) (Nat.le_of_ble_eq_true rfl) ?_
  have K0L : ∀ (a o : Nat) (w : Value), T0 a = some (3, 3, o) → tm_at M0 a 0 2 w → tm_at M0 a 0 2 w := fun a o w h q => q
  have K0J : ∀ (a : Nat) (w : Value), T0 a = some (0, 6, 0) → tm_at M0 a 6 8 w → tm_at M0 a 6 8 w := fun a w h q => q
  refine mv_aload_n d_TrustDesk_settle_0 rfl rfl ?_
  refine mv_iload_n d_TrustDesk_settle_1 rfl rfl ?_
  obtain ⟨_, b1, -⟩ := I0.1 _ _ h_o0
  refine mv_callV (kc1 := 0) (ks1 := 0) (kc' := 146) (ks' := 11534) (As := [.int x1]) (st9 := [.int x1, .ref o0]) d_TrustDesk_settle_2 lV_TrustDesk_280 b1 rfl (mj_enter (by decide) (Nat.le_of_ble_eq_true rfl) ?_) rfl (Nat.le_of_ble_eq_true rfl) (Nat.le_of_ble_eq_true rfl) (Nat.le_of_ble_eq_true rfl) (hst := rfl) (fun _ _ _ h => h)
  refine mv_iload_n d_TrustDesk_schemeAt_0 rfl rfl ?_
  have := mz_hi x1
  refine mv_if_ltZ (tgt := 29) (a := x1.toInt) d_TrustDesk_schemeAt_1 (by decide) rfl (fun b2 => ?_) (fun b2 => ?_)
  · refine mv_null d_TrustDesk_schemeAt_29 ?_
    refine mv_aret (r := none) d_TrustDesk_schemeAt_30 rfl (by first | exact Or.inl ⟨_, rfl⟩ | exact Or.inr ⟨_, rfl⟩) ?_
    refine mv_astore_nN (lv' := [(2, .null), (0, .ref o0), (1, .int x1)]) d_TrustDesk_settle_5 rfl (by decide) rfl ?_
    refine mv_aload_nN d_TrustDesk_settle_6 rfl rfl ?_
    refine mv_ifnullN (tgt := 28) d_TrustDesk_settle_7 (by decide) ?_
    refine mv_iconst (v := (-1)) d_TrustDesk_settle_28 (by decide) ?_
    exact mv_iret d_TrustDesk_settle_29 rfl (by first | rfl | decide) ⟨_, I0, _, rfl, Or.inl ⟨K0L, K0J⟩⟩
  · refine mv_iload_n d_TrustDesk_schemeAt_4 rfl rfl ?_
    refine mv_aload_n d_TrustDesk_schemeAt_5 rfl rfl ?_
    obtain ⟨a4, q3, t_a4⟩ := tm_atO I0 h_o0 (k := 8) rfl
    refine tr_getK q3 d_TrustDesk_schemeAt_6 f_TrustDesk_59_12 ?_
    obtain ⟨m6, n10, e7, N8, f9, h5⟩ := I0.1 _ _ t_a4
    have := h5.2.1
    have : n10.toInt ≤ 40 := h5.2.2.1
    have q11 : tm_at M0 a4 0 2 (.int n10) := ⟨_, h5.1, rfl⟩
    refine mv_callV_s (kc' := 0) (ks' := 0) [] [.ref a4, .int x1] d_TrustDesk_schemeAt_9 lV_TrustDesk_97 h5.1 rfl (tc_L_size (d := (d + 8)) h5.1) rfl (Nat.le_of_ble_eq_true rfl) (Nat.le_of_ble_eq_true rfl) (Nat.le_of_ble_eq_true rfl) rfl ?_
    have := mz_hi x1
    have := mz_hi n10
    refine mv_icmp_geZ (tgt := 29) (a := x1.toInt) (b := n10.toInt) d_TrustDesk_schemeAt_12 (by decide) rfl rfl (fun b12 => ?_) (fun b12 => ?_)
    · refine mv_null d_TrustDesk_schemeAt_29 ?_
      refine mv_aret (r := none) d_TrustDesk_schemeAt_30 rfl (by first | exact Or.inl ⟨_, rfl⟩ | exact Or.inr ⟨_, rfl⟩) ?_
      refine mv_astore_nN (lv' := [(2, .null), (0, .ref o0), (1, .int x1)]) d_TrustDesk_settle_5 rfl (by decide) rfl ?_
      refine mv_aload_nN d_TrustDesk_settle_6 rfl rfl ?_
      refine mv_ifnullN (tgt := 28) d_TrustDesk_settle_7 (by decide) ?_
      refine mv_iconst (v := (-1)) d_TrustDesk_settle_28 (by decide) ?_
      exact mv_iret d_TrustDesk_settle_29 rfl (by first | rfl | decide) ⟨_, I0, _, rfl, Or.inl ⟨K0L, K0J⟩⟩
    · refine mv_aload_n d_TrustDesk_schemeAt_15 rfl rfl ?_
      refine tr_getK (k := 8) q3 d_TrustDesk_schemeAt_16 f_TrustDesk_59_12 ?_
      refine mv_iload_n d_TrustDesk_schemeAt_19 rfl rfl ?_
      obtain ⟨m14, e15, N16, f17, h13⟩ := tm_lsn I0 t_a4 q11
      obtain ⟨u18e, u18i, a19, u18f, u18t⟩ := tm_el (i := x1) h13 (by omega) (by omega)
      have t_a19 : T0 a19 = some (0, 11, 0) := u18t
      refine mv_callV_s (kc' := 0) (ks' := 0) [.int x1] [.int x1, .ref a4] d_TrustDesk_schemeAt_20 lV_TrustDesk_158 h13.1 rfl (tc_L_get (d := (d + 6)) h13.1 u18e (by omega) (by omega) u18i u18f) rfl (Nat.le_of_ble_eq_true rfl) (Nat.le_of_ble_eq_true rfl) (Nat.le_of_ble_eq_true rfl) rfl ?_
      obtain ⟨_, b20, -⟩ := I0.1 _ _ t_a19
      refine mv_castS (T9 := kF_Scheme) (N := 12) d_TrustDesk_schemeAt_23 (mj_in1 (List.mem_of_getElem? (i := 961) (by decide +kernel)) rfl) b20 rfl ?_
      refine mv_goto (tgt := 30) d_TrustDesk_schemeAt_26 (by decide) ?_
      refine mv_aret (r := (some a19)) d_TrustDesk_schemeAt_30 rfl (by first | exact Or.inl ⟨_, rfl⟩ | exact Or.inr ⟨_, rfl⟩) ?_
      refine mv_astore_n (lv' := [(2, .ref a19), (0, .ref o0), (1, .int x1)]) d_TrustDesk_settle_5 rfl (by decide) rfl ?_
      refine mv_aload_n d_TrustDesk_settle_6 rfl rfl ?_
      refine mv_ifnull d_TrustDesk_settle_7 ?_
      refine mv_aload_n d_TrustDesk_settle_10 rfl rfl ?_
      obtain ⟨v22, q21⟩ := tm_atI I0 t_a19 (k := 5) rfl
      refine tr_getK q21 d_TrustDesk_settle_11 f_TrustDesk_284_11 ?_
      have := mz_hi v22
      refine mv_if_neZ (tgt := 28) (a := v22.toInt) d_TrustDesk_settle_14 (by decide) rfl (fun b23 => ?_) (fun b23 => ?_)
      · refine mv_iconst (v := (-1)) d_TrustDesk_settle_28 (by decide) ?_
        exact mv_iret d_TrustDesk_settle_29 rfl (by first | rfl | decide) ⟨_, I0, _, rfl, Or.inl ⟨K0L, K0J⟩⟩
      · refine mv_aload_n d_TrustDesk_settle_17 rfl rfl ?_
        obtain ⟨v25, q24⟩ := tm_atI I0 h_o0 (k := 12) rfl
        refine tr_getK q24 d_TrustDesk_settle_18 f_TrustDesk_73_12 ?_
        refine mv_aload_n d_TrustDesk_settle_21 rfl rfl ?_
        obtain ⟨v27, q26⟩ := tm_atI I0 t_a19 (k := 4) rfl
        refine tr_getK q26 d_TrustDesk_settle_22 f_TrustDesk_285_11 ?_
        have := mz_hi v25
        have := mz_hi v27
        refine mv_icmp_gtZ (tgt := 30) (a := v25.toInt) (b := v27.toInt) d_TrustDesk_settle_25 (by decide) rfl rfl (fun b28 => ?_) (fun b28 => ?_)
        · refine mv_aload_n d_TrustDesk_settle_30 rfl rfl ?_
          refine mv_aload_n d_TrustDesk_settle_31 rfl rfl ?_
          obtain ⟨_, b29, -⟩ := I0.1 _ _ h_o0
          refine mv_callV (kc1 := 0) (ks1 := 0) (kc' := 146) (ks' := 11534) (As := [.ref a19]) (st9 := [.ref a19, .ref o0]) d_TrustDesk_settle_32 lV_TrustDesk_314 b29 rfl (mj_enter (by decide) (Nat.le_of_ble_eq_true rfl) ?_) rfl (Nat.le_of_ble_eq_true rfl) (Nat.le_of_ble_eq_true rfl) (Nat.le_of_ble_eq_true rfl) (hst := rfl) (fun _ _ _ h => h)
          refine mv_aload_n d_TrustDesk_failureOf_0 rfl rfl ?_
          refine mv_aload_n d_TrustDesk_failureOf_1 rfl rfl ?_
          obtain ⟨v31, q30⟩ := tm_atI I0 t_a19 (k := 1) rfl
          refine tr_getK q30 d_TrustDesk_failureOf_2 f_TrustDesk_302_11 ?_
          obtain ⟨_, b32, -⟩ := I0.1 _ _ h_o0
          refine mv_callV (kc1 := 0) (ks1 := 0) (kc' := 0) (ks' := 0) (As := [.int v31]) (st9 := [.int v31, .ref o0]) d_TrustDesk_failureOf_5 lV_TrustDesk_257 b32 rfl (mj_enter (by decide) (Nat.le_of_ble_eq_true rfl) ?_) rfl (Nat.le_of_ble_eq_true rfl) (Nat.le_of_ble_eq_true rfl) (Nat.le_of_ble_eq_true rfl) (hst := rfl) (fun _ _ _ h => h)
          refine mv_iload_n d_TrustDesk_fundAt_0 rfl rfl ?_
          have := mz_hi v31
          refine mv_if_ltZ (tgt := 29) (a := v31.toInt) d_TrustDesk_fundAt_1 (by decide) rfl (fun b33 => ?_) (fun b33 => ?_)
          · refine mv_null d_TrustDesk_fundAt_29 ?_
            refine mv_aret (r := none) d_TrustDesk_fundAt_30 rfl (by first | exact Or.inl ⟨_, rfl⟩ | exact Or.inr ⟨_, rfl⟩) ?_
            refine mv_astore_nN (lv' := [(2, .null), (0, .ref o0), (1, .ref a19)]) d_TrustDesk_failureOf_8 rfl (by decide) rfl ?_
            refine mv_aload_nN d_TrustDesk_failureOf_9 rfl rfl ?_
            refine mv_ifnullN (tgt := 22) d_TrustDesk_failureOf_10 (by decide) ?_
            refine mv_iconst (v := 1) d_TrustDesk_failureOf_22 (by decide) ?_
            refine mv_iret d_TrustDesk_failureOf_23 rfl (by first | rfl | decide) ?_
            refine mv_istore_n (lv' := [(3, .int 1), (2, .ref a19), (0, .ref o0), (1, .int x1)]) d_TrustDesk_settle_35 rfl (by decide) rfl ?_
            refine mv_aload_n d_TrustDesk_settle_36 rfl rfl ?_
            refine mv_iload_n d_TrustDesk_settle_37 rfl rfl ?_
            refine tr_putKM tm_okF I0 t_a19 (k := 6) rfl ⟨_, rfl⟩ (Or.inl (by decide)) d_TrustDesk_settle_38 p_TrustDesk_318_11 rfl rfl (fun M34 I35 q36 K37 K37M => ?_)
            have K38 : ∀ (a o : Nat) (w : Value), T0 a = some (3, 3, o) → tm_at M0 a 0 2 w → tm_at M34 a 0 2 w := fun a o w h q => K37 _ 0 2 _ rfl (K0L a o w h q)
            have K39 : ∀ (a : Nat) (w : Value), T0 a = some (0, 6, 0) → tm_at M0 a 6 8 w → tm_at M34 a 6 8 w := fun a w h q => K37 _ 6 8 _ rfl (K0J a w h q)
            refine mv_aload_n d_TrustDesk_settle_41 rfl rfl ?_
            refine mv_iload_n d_TrustDesk_settle_42 rfl rfl ?_
            refine mv_if_ne_t (tgt := 50) d_TrustDesk_settle_43 (by decide) (by decide) ?_
            refine mv_iconst (v := 2) d_TrustDesk_settle_50 (by decide) ?_
            refine tr_putKM tm_okF I35 t_a19 (k := 5) rfl ⟨_, rfl⟩ (Or.inl (by decide)) d_TrustDesk_settle_51 p_TrustDesk_284_11 rfl rfl (fun M40 I41 q42 K43 K43M => ?_)
            have K44 : ∀ (a o : Nat) (w : Value), T0 a = some (3, 3, o) → tm_at M0 a 0 2 w → tm_at M40 a 0 2 w := fun a o w h q => K43 _ 0 2 _ rfl (K38 a o w h q)
            have K45 : ∀ (a : Nat) (w : Value), T0 a = some (0, 6, 0) → tm_at M0 a 6 8 w → tm_at M40 a 6 8 w := fun a w h q => K43 _ 6 8 _ rfl (K39 a w h q)
            refine mv_iload_n d_TrustDesk_settle_54 rfl rfl ?_
            refine mv_if_ne_t (tgt := 63) d_TrustDesk_settle_55 (by decide) (by decide) ?_
            refine mv_iload_n d_TrustDesk_settle_63 rfl rfl ?_
            exact mv_iret d_TrustDesk_settle_64 rfl (by first | rfl | decide) ⟨_, I41, _, rfl, Or.inl ⟨K44, K45⟩⟩
          · refine mv_iload_n d_TrustDesk_fundAt_4 rfl rfl ?_
            refine mv_aload_n d_TrustDesk_fundAt_5 rfl rfl ?_
            refine tr_getK (k := 6) q_Lf d_TrustDesk_fundAt_6 f_TrustDesk_53_12 ?_
            obtain ⟨m47, n51, e48, N49, f50, h46⟩ := I0.1 _ _ h_Lf
            have := h46.2.1
            have : n51.toInt ≤ 12 := h46.2.2.1
            have q52 : tm_at M0 Lf 0 2 (.int n51) := ⟨_, h46.1, rfl⟩
            refine mv_callV_s (kc' := 0) (ks' := 0) [] [.ref Lf, .int v31] d_TrustDesk_fundAt_9 lV_TrustDesk_97 h46.1 rfl (tc_L_size (d := (d + 7)) h46.1) rfl (Nat.le_of_ble_eq_true rfl) (Nat.le_of_ble_eq_true rfl) (Nat.le_of_ble_eq_true rfl) rfl ?_
            have := mz_hi v31
            have := mz_hi n51
            refine mv_icmp_geZ (tgt := 29) (a := v31.toInt) (b := n51.toInt) d_TrustDesk_fundAt_12 (by decide) rfl rfl (fun b53 => ?_) (fun b53 => ?_)
            · refine mv_null d_TrustDesk_fundAt_29 ?_
              refine mv_aret (r := none) d_TrustDesk_fundAt_30 rfl (by first | exact Or.inl ⟨_, rfl⟩ | exact Or.inr ⟨_, rfl⟩) ?_
              refine mv_astore_nN (lv' := [(2, .null), (0, .ref o0), (1, .ref a19)]) d_TrustDesk_failureOf_8 rfl (by decide) rfl ?_
              refine mv_aload_nN d_TrustDesk_failureOf_9 rfl rfl ?_
              refine mv_ifnullN (tgt := 22) d_TrustDesk_failureOf_10 (by decide) ?_
              refine mv_iconst (v := 1) d_TrustDesk_failureOf_22 (by decide) ?_
              refine mv_iret d_TrustDesk_failureOf_23 rfl (by first | rfl | decide) ?_
              refine mv_istore_n (lv' := [(3, .int 1), (2, .ref a19), (0, .ref o0), (1, .int x1)]) d_TrustDesk_settle_35 rfl (by decide) rfl ?_
              refine mv_aload_n d_TrustDesk_settle_36 rfl rfl ?_
              refine mv_iload_n d_TrustDesk_settle_37 rfl rfl ?_
              refine tr_putKM tm_okF I0 t_a19 (k := 6) rfl ⟨_, rfl⟩ (Or.inl (by decide)) d_TrustDesk_settle_38 p_TrustDesk_318_11 rfl rfl (fun M54 I55 q56 K57 K57M => ?_)
              have K58 : ∀ (a o : Nat) (w : Value), T0 a = some (3, 3, o) → tm_at M0 a 0 2 w → tm_at M54 a 0 2 w := fun a o w h q => K57 _ 0 2 _ rfl (K0L a o w h q)
              have K59 : ∀ (a : Nat) (w : Value), T0 a = some (0, 6, 0) → tm_at M0 a 6 8 w → tm_at M54 a 6 8 w := fun a w h q => K57 _ 6 8 _ rfl (K0J a w h q)
              refine mv_aload_n d_TrustDesk_settle_41 rfl rfl ?_
              refine mv_iload_n d_TrustDesk_settle_42 rfl rfl ?_
              refine mv_if_ne_t (tgt := 50) d_TrustDesk_settle_43 (by decide) (by decide) ?_
              refine mv_iconst (v := 2) d_TrustDesk_settle_50 (by decide) ?_
              refine tr_putKM tm_okF I55 t_a19 (k := 5) rfl ⟨_, rfl⟩ (Or.inl (by decide)) d_TrustDesk_settle_51 p_TrustDesk_284_11 rfl rfl (fun M60 I61 q62 K63 K63M => ?_)
              have K64 : ∀ (a o : Nat) (w : Value), T0 a = some (3, 3, o) → tm_at M0 a 0 2 w → tm_at M60 a 0 2 w := fun a o w h q => K63 _ 0 2 _ rfl (K58 a o w h q)
              have K65 : ∀ (a : Nat) (w : Value), T0 a = some (0, 6, 0) → tm_at M0 a 6 8 w → tm_at M60 a 6 8 w := fun a w h q => K63 _ 6 8 _ rfl (K59 a w h q)
              refine mv_iload_n d_TrustDesk_settle_54 rfl rfl ?_
              refine mv_if_ne_t (tgt := 63) d_TrustDesk_settle_55 (by decide) (by decide) ?_
              refine mv_iload_n d_TrustDesk_settle_63 rfl rfl ?_
              exact mv_iret d_TrustDesk_settle_64 rfl (by first | rfl | decide) ⟨_, I61, _, rfl, Or.inl ⟨K64, K65⟩⟩
            · refine mv_aload_n d_TrustDesk_fundAt_15 rfl rfl ?_
              refine tr_getK (k := 6) q_Lf d_TrustDesk_fundAt_16 f_TrustDesk_53_12 ?_
              refine mv_iload_n d_TrustDesk_fundAt_19 rfl rfl ?_
              obtain ⟨m67, e68, N69, f70, h66⟩ := tm_lsn I0 h_Lf q52
              have u71e := (tm_el (i := v31) h66 (by omega) (by omega)).1
              have u71i := (tm_el (i := v31) h66 (by omega) (by omega)).2.1
              obtain ⟨a72, u71f, u71t⟩ := (tm_el (i := v31) h66 (by omega) (by omega)).2.2
              have g73 := tm_ge.of h66 (by rw [mz_nat9 (by omega)]; omega) u71f
              have t_z74 : T0 a72 = some (0, 6, 0) := u71t
              refine mv_callV_s (kc' := 0) (ks' := 0) [.int v31] [.int v31, .ref Lf] d_TrustDesk_fundAt_20 lV_TrustDesk_158 h66.1 rfl (tc_L_get (d := (d + 5)) h66.1 u71e (by omega) (by omega) u71i u71f) rfl (Nat.le_of_ble_eq_true rfl) (Nat.le_of_ble_eq_true rfl) (Nat.le_of_ble_eq_true rfl) rfl ?_
              obtain ⟨_, b75, -⟩ := I0.1 _ _ t_z74
              refine mv_castS (T9 := kF_Fund) (N := 15) d_TrustDesk_fundAt_23 (mj_in1 (List.mem_of_getElem? (i := 655) (by decide +kernel)) rfl) b75 rfl ?_
              refine mv_goto (tgt := 30) d_TrustDesk_fundAt_26 (by decide) ?_
              refine mv_aret (r := (some a72)) d_TrustDesk_fundAt_30 rfl (by first | exact Or.inl ⟨_, rfl⟩ | exact Or.inr ⟨_, rfl⟩) ?_
              refine mv_astore_n (lv' := [(2, .ref a72), (0, .ref o0), (1, .ref a19)]) d_TrustDesk_failureOf_8 rfl (by decide) rfl ?_
              refine mv_aload_n d_TrustDesk_failureOf_9 rfl rfl ?_
              refine mv_ifnull d_TrustDesk_failureOf_10 ?_
              refine mv_aload_n d_TrustDesk_failureOf_13 rfl rfl ?_
              refine mv_aload_n d_TrustDesk_failureOf_14 rfl rfl ?_
              refine mv_aload_n d_TrustDesk_failureOf_15 rfl rfl ?_
              obtain ⟨_, b76, -⟩ := I0.1 _ _ h_o0
              refine mv_callV (kc1 := 0) (ks1 := 0) (kc' := 0) (ks' := 0) (As := [.ref a19, .ref a72]) (st9 := [.ref a72, .ref a19, .ref o0]) d_TrustDesk_failureOf_16 lV_TrustDesk_325 b76 rfl (mj_enter (by decide) (Nat.le_of_ble_eq_true rfl) ?_) rfl (Nat.le_of_ble_eq_true rfl) (Nat.le_of_ble_eq_true rfl) (Nat.le_of_ble_eq_true rfl) (hst := rfl) (fun _ _ _ h => h)
              refine mv_aload_n d_TrustDesk_canBe_0 rfl rfl ?_
              obtain ⟨_, b77, -⟩ := I0.1 _ _ t_z74
              refine mv_callV (kc1 := 0) (ks1 := 0) (kc' := 0) (ks' := 0) (As := []) (st9 := [.ref a72]) d_TrustDesk_canBe_1 lV_TrustDesk_162 b77 rfl (mj_enter (by decide) (Nat.le_of_ble_eq_true rfl) ?_) rfl (Nat.le_of_ble_eq_true rfl) (Nat.le_of_ble_eq_true rfl) (Nat.le_of_ble_eq_true rfl) (hst := rfl) (fun _ _ _ h => h)
              refine mv_aload_n d_Fund_isJoined_0 rfl rfl ?_
              obtain ⟨v79, q78⟩ := tm_atI I0 t_z74 (k := 8) rfl
              refine tr_getK q78 d_Fund_isJoined_1 f_Fund_18_6 ?_
              refine mv_iconst (v := (-1)) d_Fund_isJoined_4 (by decide) ?_
              have := mz_hi v79
              refine mv_icmp_eqZ (tgt := 12) (a := v79.toInt) (b := (-1)) d_Fund_isJoined_5 (by decide) rfl (by decide) (fun b80 => ?_) (fun b80 => ?_)
              · refine mv_iconst (v := 0) d_Fund_isJoined_12 (by decide) ?_
                refine mv_iret d_Fund_isJoined_13 rfl (by decide) ?_
                refine mv_if_eq_t (tgt := 9) d_TrustDesk_canBe_4 (by decide) (by decide) ?_
                refine mv_aload_n d_TrustDesk_canBe_9 rfl rfl ?_
                obtain ⟨v82, q81⟩ := tm_atI I0 t_a19 (k := 0) rfl
                refine tr_getK q81 d_TrustDesk_canBe_10 f_TrustDesk_308_11 ?_
                rcases (show (v82.toInt < 0 ∨ 2 < v82.toInt) ∨ v82.toInt = 0 ∨ v82.toInt = 1 ∨ v82.toInt = 2 by omega) with b83 | b83 | b83 | b83
                · refine mv_tableOut (tgt := 84) d_TrustDesk_canBe_13 b83 (by decide) ?_
                  refine mv_aload_n d_TrustDesk_canBe_84 rfl rfl ?_
                  refine mv_aload_n d_TrustDesk_canBe_85 rfl rfl ?_
                  obtain ⟨v85, q84⟩ := tm_atI I0 t_a19 (k := 2) rfl
                  refine tr_getK q84 d_TrustDesk_canBe_86 f_TrustDesk_311_11 ?_
                  obtain ⟨_, b92, -⟩ := I0.1 _ _ t_z74
                  refine mv_callV (kc' := 0) (ks' := 0) (As := [.int v85]) (st9 := [.int v85, .ref a72]) d_TrustDesk_canBe_89 lV_TrustDesk_359 b92 rfl (tc_Fund_endAt (d := (d + 4)) (x9 := x9) (o0 := a72) (x1 := v85) t_z74 I0.start) rfl (Nat.le_of_ble_eq_true rfl) (Nat.le_of_ble_eq_true rfl) (Nat.le_of_ble_eq_true rfl) (hst := rfl) (fun b86r M87 n88 b86 => ?_)
                  obtain ⟨T89, J90, b94⟩ := b86
                  have I91 := I0.call J90 (tm_sub (by decide)) (Or.inl rfl)
                  have t95 := J90.up h_o0
                  have t96 := J90.up t_a19
                  have t97 := J90.up t_z74
                  have K98 : ∀ (a o : Nat) (w : Value), T0 a = some (3, 3, o) → tm_at M0 a 0 2 w → tm_at M87 a 0 2 w := fun a o w h q => J90.keepL (I0.up h) (by decide) (K0L a o w h q)
                  have K99 : ∀ (a : Nat) (w : Value), T0 a = some (0, 6, 0) → tm_at M0 a 6 8 w → tm_at M87 a 6 8 w := fun a w h q => J90.keep (I0.up h) (by decide) (K0J a w h q)
                  have q100 := J90.keep h_o0 (by decide) q_Lf
                  have t101 := J90.up h_Lf
                  have q102 := J90.keep h_o0 (by decide) q3
                  have t103 := J90.up t_a4
                  have q104 := J90.keepL t_a4 (by decide) q11
                  have q105 := J90.keep t_a19 (by decide) q21
                  have q106 := J90.keep h_o0 (by decide) q24
                  have q107 := J90.keep t_a19 (by decide) q26
                  have q108 := J90.keep t_a19 (by decide) q30
                  have q109 := J90.keepL h_Lf (by decide) q52
                  have q110 := J90.keep t_z74 (by decide) q78
                  have q111 := J90.keep t_a19 (by decide) q81
                  have q112 := J90.keep t_a19 (by decide) q84
                  rcases b94 with rfl | ⟨a93, rfl, t_a93⟩
                  · refine mv_astore_nN (lv' := [(3, .null), (0, .ref o0), (1, .ref a19), (2, .ref a72)]) d_TrustDesk_canBe_92 rfl (by decide) rfl ?_
                    refine mv_aload_nN d_TrustDesk_canBe_93 rfl rfl ?_
                    refine mv_ifnullN (tgt := 109) d_TrustDesk_canBe_94 (by decide) ?_
                    refine mv_iconst (v := 0) d_TrustDesk_canBe_109 (by decide) ?_
                    refine mv_iret d_TrustDesk_canBe_110 rfl (by decide) ?_
                    refine mv_if_ne_f (tgt := 24) d_TrustDesk_failureOf_19 (by decide) (by decide) ?_
                    refine mv_iconst (v := 1) d_TrustDesk_failureOf_22 (by decide) ?_
                    refine mv_iret d_TrustDesk_failureOf_23 rfl (by first | rfl | decide) ?_
                    refine mv_istore_n (lv' := [(3, .int 1), (2, .ref a19), (0, .ref o0), (1, .int x1)]) d_TrustDesk_settle_35 rfl (by decide) rfl ?_
                    refine mv_aload_n d_TrustDesk_settle_36 rfl rfl ?_
                    refine mv_iload_n d_TrustDesk_settle_37 rfl rfl ?_
                    refine tr_putKM tm_okF I91 t96 (k := 6) rfl ⟨_, rfl⟩ (Or.inl (by decide)) d_TrustDesk_settle_38 p_TrustDesk_318_11 rfl rfl (fun M113 I114 q115 K116 K116M => ?_)
                    have K117 : ∀ (a o : Nat) (w : Value), T0 a = some (3, 3, o) → tm_at M0 a 0 2 w → tm_at M113 a 0 2 w := fun a o w h q => K116 _ 0 2 _ rfl (K98 a o w h q)
                    have K118 : ∀ (a : Nat) (w : Value), T0 a = some (0, 6, 0) → tm_at M0 a 6 8 w → tm_at M113 a 6 8 w := fun a w h q => K116 _ 6 8 _ rfl (K99 a w h q)
                    refine mv_aload_n d_TrustDesk_settle_41 rfl rfl ?_
                    refine mv_iload_n d_TrustDesk_settle_42 rfl rfl ?_
                    refine mv_if_ne_t (tgt := 50) d_TrustDesk_settle_43 (by decide) (by decide) ?_
                    refine mv_iconst (v := 2) d_TrustDesk_settle_50 (by decide) ?_
                    refine tr_putKM tm_okF I114 t96 (k := 5) rfl ⟨_, rfl⟩ (Or.inl (by decide)) d_TrustDesk_settle_51 p_TrustDesk_284_11 rfl rfl (fun M119 I120 q121 K122 K122M => ?_)
                    have K123 : ∀ (a o : Nat) (w : Value), T0 a = some (3, 3, o) → tm_at M0 a 0 2 w → tm_at M119 a 0 2 w := fun a o w h q => K122 _ 0 2 _ rfl (K117 a o w h q)
                    have K124 : ∀ (a : Nat) (w : Value), T0 a = some (0, 6, 0) → tm_at M0 a 6 8 w → tm_at M119 a 6 8 w := fun a w h q => K122 _ 6 8 _ rfl (K118 a w h q)
                    refine mv_iload_n d_TrustDesk_settle_54 rfl rfl ?_
                    refine mv_if_ne_t (tgt := 63) d_TrustDesk_settle_55 (by decide) (by decide) ?_
                    refine mv_iload_n d_TrustDesk_settle_63 rfl rfl ?_
                    exact mv_iret d_TrustDesk_settle_64 rfl (by first | rfl | decide) ⟨_, I120, _, rfl, Or.inl ⟨K123, K124⟩⟩
                  · refine mv_astore_n (lv' := [(3, .ref a93), (0, .ref o0), (1, .ref a19), (2, .ref a72)]) d_TrustDesk_canBe_92 rfl (by decide) rfl ?_
                    refine mv_aload_n d_TrustDesk_canBe_93 rfl rfl ?_
                    refine mv_ifnull d_TrustDesk_canBe_94 ?_
                    refine mv_aload_n d_TrustDesk_canBe_97 rfl rfl ?_
                    obtain ⟨v126, q125⟩ := tm_atI I91 t_a93 (k := 1) rfl
                    refine tr_getK q125 d_TrustDesk_canBe_98 f_TrustDesk_193_3 ?_
                    refine mv_iconst (v := 2) d_TrustDesk_canBe_101 (by decide) ?_
                    have := mz_hi v126
                    refine mv_icmp_eqZ (tgt := 109) (a := v126.toInt) (b := 2) d_TrustDesk_canBe_102 (by decide) rfl (by decide) (fun b127 => ?_) (fun b127 => ?_)
                    · refine mv_iconst (v := 0) d_TrustDesk_canBe_109 (by decide) ?_
                      refine mv_iret d_TrustDesk_canBe_110 rfl (by decide) ?_
                      refine mv_if_ne_f (tgt := 24) d_TrustDesk_failureOf_19 (by decide) (by decide) ?_
                      refine mv_iconst (v := 1) d_TrustDesk_failureOf_22 (by decide) ?_
                      refine mv_iret d_TrustDesk_failureOf_23 rfl (by first | rfl | decide) ?_
                      refine mv_istore_n (lv' := [(3, .int 1), (2, .ref a19), (0, .ref o0), (1, .int x1)]) d_TrustDesk_settle_35 rfl (by decide) rfl ?_
                      refine mv_aload_n d_TrustDesk_settle_36 rfl rfl ?_
                      refine mv_iload_n d_TrustDesk_settle_37 rfl rfl ?_
                      refine tr_putKM tm_okF I91 t96 (k := 6) rfl ⟨_, rfl⟩ (Or.inl (by decide)) d_TrustDesk_settle_38 p_TrustDesk_318_11 rfl rfl (fun M128 I129 q130 K131 K131M => ?_)
                      have K132 : ∀ (a o : Nat) (w : Value), T0 a = some (3, 3, o) → tm_at M0 a 0 2 w → tm_at M128 a 0 2 w := fun a o w h q => K131 _ 0 2 _ rfl (K98 a o w h q)
                      have K133 : ∀ (a : Nat) (w : Value), T0 a = some (0, 6, 0) → tm_at M0 a 6 8 w → tm_at M128 a 6 8 w := fun a w h q => K131 _ 6 8 _ rfl (K99 a w h q)
                      refine mv_aload_n d_TrustDesk_settle_41 rfl rfl ?_
                      refine mv_iload_n d_TrustDesk_settle_42 rfl rfl ?_
                      refine mv_if_ne_t (tgt := 50) d_TrustDesk_settle_43 (by decide) (by decide) ?_
                      refine mv_iconst (v := 2) d_TrustDesk_settle_50 (by decide) ?_
                      refine tr_putKM tm_okF I129 t96 (k := 5) rfl ⟨_, rfl⟩ (Or.inl (by decide)) d_TrustDesk_settle_51 p_TrustDesk_284_11 rfl rfl (fun M134 I135 q136 K137 K137M => ?_)
                      have K138 : ∀ (a o : Nat) (w : Value), T0 a = some (3, 3, o) → tm_at M0 a 0 2 w → tm_at M134 a 0 2 w := fun a o w h q => K137 _ 0 2 _ rfl (K132 a o w h q)
                      have K139 : ∀ (a : Nat) (w : Value), T0 a = some (0, 6, 0) → tm_at M0 a 6 8 w → tm_at M134 a 6 8 w := fun a w h q => K137 _ 6 8 _ rfl (K133 a w h q)
                      refine mv_iload_n d_TrustDesk_settle_54 rfl rfl ?_
                      refine mv_if_ne_t (tgt := 63) d_TrustDesk_settle_55 (by decide) (by decide) ?_
                      refine mv_iload_n d_TrustDesk_settle_63 rfl rfl ?_
                      exact mv_iret d_TrustDesk_settle_64 rfl (by first | rfl | decide) ⟨_, I135, _, rfl, Or.inl ⟨K138, K139⟩⟩
                    · refine mv_iconst (v := 1) d_TrustDesk_canBe_105 (by decide) ?_
                      refine mv_goto (tgt := 110) d_TrustDesk_canBe_106 (by decide) ?_
                      refine mv_iret d_TrustDesk_canBe_110 rfl (by decide) ?_
                      refine mv_if_ne_t (tgt := 24) d_TrustDesk_failureOf_19 (by decide) (by decide) ?_
                      refine mv_aload_n d_TrustDesk_failureOf_24 rfl rfl ?_
                      refine mv_aload_n d_TrustDesk_failureOf_25 rfl rfl ?_
                      refine tr_getK (k := 12) q106 d_TrustDesk_failureOf_26 f_TrustDesk_73_12 ?_
                      obtain ⟨_, b146, -⟩ := I91.1 _ _ t95
                      refine mv_callV (kc' := 0) (ks' := 0) (As := [.int v25]) (st9 := [.int v25, .ref o0]) d_TrustDesk_failureOf_29 lV_TrustDesk_114 b146 rfl (tc_TrustDesk_inForce (d := (d + 5)) (x9 := x9) (o0 := o0) (x1 := v25) t95 I91.start) rfl (Nat.le_of_ble_eq_true rfl) (Nat.le_of_ble_eq_true rfl) (Nat.le_of_ble_eq_true rfl) (hst := rfl) (fun b140r M141 n142 b140 => ?_)
                      obtain ⟨T143, J144, a147, rfl, t_a147⟩ := b140
                      have I145 := I91.call J144 (tm_sub (by decide)) (Or.inl rfl)
                      have t148 := J144.up t97
                      have t149 := J144.up t95
                      have t150 := J144.up t96
                      have K151 : ∀ (a o : Nat) (w : Value), T0 a = some (3, 3, o) → tm_at M0 a 0 2 w → tm_at M141 a 0 2 w := fun a o w h q => J144.keepL (I91.up h) (by decide) (K98 a o w h q)
                      have K152 : ∀ (a : Nat) (w : Value), T0 a = some (0, 6, 0) → tm_at M0 a 6 8 w → tm_at M141 a 6 8 w := fun a w h q => J144.keep (I91.up h) (by decide) (K99 a w h q)
                      have q153 := J144.keep t95 (by decide) q100
                      have t154 := J144.up t101
                      have q155 := J144.keep t95 (by decide) q102
                      have t156 := J144.up t103
                      have q157 := J144.keepL t103 (by decide) q104
                      have q158 := J144.keep t96 (by decide) q105
                      have q159 := J144.keep t95 (by decide) q106
                      have q160 := J144.keep t96 (by decide) q107
                      have q161 := J144.keep t96 (by decide) q108
                      have q162 := J144.keepL t101 (by decide) q109
                      have q163 := J144.keep t97 (by decide) q110
                      have q164 := J144.keep t96 (by decide) q111
                      have q165 := J144.keep t96 (by decide) q112
                      refine mv_astore_n (lv' := [(3, .ref a147), (2, .ref a72), (0, .ref o0), (1, .ref a19)]) d_TrustDesk_failureOf_32 rfl (by decide) rfl ?_
                      refine mv_aload_n d_TrustDesk_failureOf_33 rfl rfl ?_
                      refine mv_aload_n d_TrustDesk_failureOf_34 rfl rfl ?_
                      refine tr_getK (k := 0) q164 d_TrustDesk_failureOf_35 f_TrustDesk_308_11 ?_
                      refine mv_aload_n d_TrustDesk_failureOf_38 rfl rfl ?_
                      refine mv_aload_n d_TrustDesk_failureOf_39 rfl rfl ?_
                      obtain ⟨_, b172, -⟩ := I145.1 _ _ t149
                      refine mv_callV (kc' := 0) (ks' := 0) (As := [.int v82, .ref a72, .ref a147]) (st9 := [.ref a147, .ref a72, .int v82, .ref o0]) d_TrustDesk_failureOf_40 lV_TrustDesk_329 b172 rfl (tc_TrustDesk_isBarred (d := (d + 4)) (x9 := x9) (o0 := o0) (x1 := v82) (o2 := a72) (o3 := a147) t149 t148 t_a147 I145.start) rfl (Nat.le_of_ble_eq_true rfl) (Nat.le_of_ble_eq_true rfl) (Nat.le_of_ble_eq_true rfl) (hst := rfl) (fun b166r M167 n168 b166 => ?_)
                      obtain ⟨T169, J170, v173, rfl, b174, b175⟩ := b166
                      have I171 := I145.call J170 (tm_sub (by decide)) (Or.inl rfl)
                      have t176 := J170.up t_a147
                      have t177 := J170.up t148
                      have t178 := J170.up t149
                      have t179 := J170.up t150
                      have K180 : ∀ (a o : Nat) (w : Value), T0 a = some (3, 3, o) → tm_at M0 a 0 2 w → tm_at M167 a 0 2 w := fun a o w h q => J170.keepL (I145.up h) (by decide) (K151 a o w h q)
                      have K181 : ∀ (a : Nat) (w : Value), T0 a = some (0, 6, 0) → tm_at M0 a 6 8 w → tm_at M167 a 6 8 w := fun a w h q => J170.keep (I145.up h) (by decide) (K152 a w h q)
                      have q182 := J170.keep t149 (by decide) q153
                      have t183 := J170.up t154
                      have q184 := J170.keep t149 (by decide) q155
                      have t185 := J170.up t156
                      have q186 := J170.keepL t156 (by decide) q157
                      have q187 := J170.keep t150 (by decide) q158
                      have q188 := J170.keep t149 (by decide) q159
                      have q189 := J170.keep t150 (by decide) q160
                      have q190 := J170.keep t150 (by decide) q161
                      have q191 := J170.keepL t154 (by decide) q162
                      have q192 := J170.keep t148 (by decide) q163
                      have q193 := J170.keep t150 (by decide) q164
                      have q194 := J170.keep t150 (by decide) q165
                      have := mz_hi v173
                      refine mv_if_eqZ (tgt := 48) (a := v173.toInt) d_TrustDesk_failureOf_43 (by decide) rfl (fun b195 => ?_) (fun b195 => ?_)
                      · refine mv_aload_n d_TrustDesk_failureOf_48 rfl rfl ?_
                        refine mv_aload_n d_TrustDesk_failureOf_49 rfl rfl ?_
                        refine mv_aload_n d_TrustDesk_failureOf_50 rfl rfl ?_
                        obtain ⟨_, b202, -⟩ := I171.1 _ _ t178
                        refine mv_callV (kc' := 0) (ks' := 0) (As := [.ref a19, .ref a72]) (st9 := [.ref a72, .ref a19, .ref o0]) d_TrustDesk_failureOf_51 lV_TrustDesk_333 b202 rfl (tc_TrustDesk_marksLeft (d := (d + 4)) (x9 := x9) (o0 := o0) (o1 := a19) (o2 := a72) t178 t179 t177 I171.start) rfl (Nat.le_of_ble_eq_true rfl) (Nat.le_of_ble_eq_true rfl) (Nat.le_of_ble_eq_true rfl) (hst := rfl) (fun b196r M197 n198 b196 => ?_)
                        obtain ⟨T199, J200, v203, rfl⟩ := b196
                        have I201 := I171.call J200 (tm_sub (by decide)) (Or.inl rfl)
                        have t204 := J200.up t176
                        have t205 := J200.up t177
                        have t206 := J200.up t178
                        have t207 := J200.up t179
                        have K208 : ∀ (a o : Nat) (w : Value), T0 a = some (3, 3, o) → tm_at M0 a 0 2 w → tm_at M197 a 0 2 w := fun a o w h q => J200.keepL (I171.up h) (by decide) (K180 a o w h q)
                        have K209 : ∀ (a : Nat) (w : Value), T0 a = some (0, 6, 0) → tm_at M0 a 6 8 w → tm_at M197 a 6 8 w := fun a w h q => J200.keep (I171.up h) (by decide) (K181 a w h q)
                        have q210 := J200.keep t178 (by decide) q182
                        have t211 := J200.up t183
                        have q212 := J200.keep t178 (by decide) q184
                        have t213 := J200.up t185
                        have q214 := J200.keepL t185 (by decide) q186
                        have q215 := J200.keep t179 (by decide) q187
                        have q216 := J200.keep t178 (by decide) q188
                        have q217 := J200.keep t179 (by decide) q189
                        have q218 := J200.keep t179 (by decide) q190
                        have q219 := J200.keepL t183 (by decide) q191
                        have q220 := J200.keep t177 (by decide) q192
                        have q221 := J200.keep t179 (by decide) q193
                        have q222 := J200.keep t179 (by decide) q194
                        refine mv_callS (kc' := 0) (ks' := 0) (As := [.int v203]) (st9 := [.int v203]) d_TrustDesk_failureOf_54 lS_TrustDesk_337 (tc_Integer_bitCount (d := (d + 8)) (x9 := x9) (x1 := v203)  I201.start) rfl (Nat.le_of_ble_eq_true rfl) (Nat.le_of_ble_eq_true rfl) (Nat.le_of_ble_eq_true rfl) (hst := rfl) (fun b223r M224 n225 b223 => ?_)
                        obtain ⟨T226, J227, v229, rfl⟩ := b223
                        have I228 := I201.call J227 (tm_sub (by decide)) (Or.inl rfl)
                        have t230 := J227.up t204
                        have t231 := J227.up t205
                        have t232 := J227.up t206
                        have t233 := J227.up t207
                        have K234 : ∀ (a o : Nat) (w : Value), T0 a = some (3, 3, o) → tm_at M0 a 0 2 w → tm_at M224 a 0 2 w := fun a o w h q => J227.keepL (I201.up h) (by decide) (K208 a o w h q)
                        have K235 : ∀ (a : Nat) (w : Value), T0 a = some (0, 6, 0) → tm_at M0 a 6 8 w → tm_at M224 a 6 8 w := fun a w h q => J227.keep (I201.up h) (by decide) (K209 a w h q)
                        have q236 := J227.keep t206 (by decide) q210
                        have t237 := J227.up t211
                        have q238 := J227.keep t206 (by decide) q212
                        have t239 := J227.up t213
                        have q240 := J227.keepL t213 (by decide) q214
                        have q241 := J227.keep t207 (by decide) q215
                        have q242 := J227.keep t206 (by decide) q216
                        have q243 := J227.keep t207 (by decide) q217
                        have q244 := J227.keep t207 (by decide) q218
                        have q245 := J227.keepL t211 (by decide) q219
                        have q246 := J227.keep t205 (by decide) q220
                        have q247 := J227.keep t207 (by decide) q221
                        have q248 := J227.keep t207 (by decide) q222
                        refine mv_aload_n d_TrustDesk_failureOf_57 rfl rfl ?_
                        refine mv_iconst (v := 1) d_TrustDesk_failureOf_58 (by decide) ?_
                        obtain ⟨_, b255, -⟩ := I228.1 _ _ t230
                        refine mv_callV (kc' := 0) (ks' := 0) (As := [.int 1]) (st9 := [.int 1, .ref a147, .int v229]) d_TrustDesk_failureOf_59 lV_TrustDesk_118 b255 rfl (tc_Act_rule (d := (d + 8)) (x9 := x9) (o0 := a147) (x1 := 1) t230 I228.start) rfl (Nat.le_of_ble_eq_true rfl) (Nat.le_of_ble_eq_true rfl) (Nat.le_of_ble_eq_true rfl) (hst := rfl) (fun b249r M250 n251 b249 => ?_)
                        obtain ⟨T252, J253, v256, rfl⟩ := b249
                        have I254 := I228.call J253 (tm_sub (by decide)) (Or.inl rfl)
                        have t257 := J253.up t230
                        have t258 := J253.up t231
                        have t259 := J253.up t232
                        have t260 := J253.up t233
                        have K261 : ∀ (a o : Nat) (w : Value), T0 a = some (3, 3, o) → tm_at M0 a 0 2 w → tm_at M250 a 0 2 w := fun a o w h q => J253.keepL (I228.up h) (by decide) (K234 a o w h q)
                        have K262 : ∀ (a : Nat) (w : Value), T0 a = some (0, 6, 0) → tm_at M0 a 6 8 w → tm_at M250 a 6 8 w := fun a w h q => J253.keep (I228.up h) (by decide) (K235 a w h q)
                        have q263 := J253.keep t232 (by decide) q236
                        have t264 := J253.up t237
                        have q265 := J253.keep t232 (by decide) q238
                        have t266 := J253.up t239
                        have q267 := J253.keepL t239 (by decide) q240
                        have q268 := J253.keep t233 (by decide) q241
                        have q269 := J253.keep t232 (by decide) q242
                        have q270 := J253.keep t233 (by decide) q243
                        have q271 := J253.keep t233 (by decide) q244
                        have q272 := J253.keepL t237 (by decide) q245
                        have q273 := J253.keep t231 (by decide) q246
                        have q274 := J253.keep t233 (by decide) q247
                        have q275 := J253.keep t233 (by decide) q248
                        have := mz_hi v229
                        have := mz_hi v256
                        refine mv_icmp_geZ (tgt := 67) (a := v229.toInt) (b := v256.toInt) d_TrustDesk_failureOf_62 (by decide) rfl rfl (fun b276 => ?_) (fun b276 => ?_)
                        · refine mv_aload_n d_TrustDesk_failureOf_67 rfl rfl ?_
                          refine mv_aload_n d_TrustDesk_failureOf_68 rfl rfl ?_
                          refine mv_aload_n d_TrustDesk_failureOf_69 rfl rfl ?_
                          obtain ⟨_, b283, -⟩ := I254.1 _ _ t259
                          refine mv_callV (kc' := 0) (ks' := 0) (As := [.ref a19, .ref a72]) (st9 := [.ref a72, .ref a19, .ref o0]) d_TrustDesk_failureOf_70 lV_TrustDesk_342 b283 rfl (tc_TrustDesk_isCarried (d := (d + 4)) (x9 := x9) (o0 := o0) (o1 := a19) (o2 := a72) t259 t260 t258 I254.start) rfl (Nat.le_of_ble_eq_true rfl) (Nat.le_of_ble_eq_true rfl) (Nat.le_of_ble_eq_true rfl) (hst := rfl) (fun b277r M278 n279 b277 => ?_)
                          obtain ⟨T280, J281, v284, rfl, b285, b286⟩ := b277
                          have I282 := I254.call J281 (tm_sub (by decide)) (Or.inl rfl)
                          have t287 := J281.up t257
                          have t288 := J281.up t258
                          have t289 := J281.up t259
                          have t290 := J281.up t260
                          have K291 : ∀ (a o : Nat) (w : Value), T0 a = some (3, 3, o) → tm_at M0 a 0 2 w → tm_at M278 a 0 2 w := fun a o w h q => J281.keepL (I254.up h) (by decide) (K261 a o w h q)
                          have K292 : ∀ (a : Nat) (w : Value), T0 a = some (0, 6, 0) → tm_at M0 a 6 8 w → tm_at M278 a 6 8 w := fun a w h q => J281.keep (I254.up h) (by decide) (K262 a w h q)
                          have q293 := J281.keep t259 (by decide) q263
                          have t294 := J281.up t264
                          have q295 := J281.keep t259 (by decide) q265
                          have t296 := J281.up t266
                          have q297 := J281.keepL t266 (by decide) q267
                          have q298 := J281.keep t260 (by decide) q268
                          have q299 := J281.keep t259 (by decide) q269
                          have q300 := J281.keep t260 (by decide) q270
                          have q301 := J281.keep t260 (by decide) q271
                          have q302 := J281.keepL t264 (by decide) q272
                          have q303 := J281.keep t258 (by decide) q273
                          have q304 := J281.keep t260 (by decide) q274
                          have q305 := J281.keep t260 (by decide) q275
                          have := mz_hi v284
                          refine mv_if_neZ (tgt := 78) (a := v284.toInt) d_TrustDesk_failureOf_73 (by decide) rfl (fun b306 => ?_) (fun b306 => ?_)
                          · refine mv_aload_n d_TrustDesk_failureOf_78 rfl rfl ?_
                            obtain ⟨v308, q307⟩ := tm_atI I282 t290 (k := 7) rfl
                            refine tr_getK q307 d_TrustDesk_failureOf_79 f_TrustDesk_345_11 ?_
                            have := mz_hi v308
                            refine mv_if_leZ (tgt := 89) (a := v308.toInt) d_TrustDesk_failureOf_82 (by decide) rfl (fun b309 => ?_) (fun b309 => ?_)
                            · refine mv_iconst (v := 0) d_TrustDesk_failureOf_89 (by decide) ?_
                              refine mv_iret d_TrustDesk_failureOf_90 rfl (by first | rfl | decide) ?_
                              refine mv_istore_n (lv' := [(3, .int 0), (2, .ref a19), (0, .ref o0), (1, .int x1)]) d_TrustDesk_settle_35 rfl (by decide) rfl ?_
                              refine mv_aload_n d_TrustDesk_settle_36 rfl rfl ?_
                              refine mv_iload_n d_TrustDesk_settle_37 rfl rfl ?_
                              refine tr_putKM tm_okF I282 t290 (k := 6) rfl ⟨_, rfl⟩ (Or.inl (by decide)) d_TrustDesk_settle_38 p_TrustDesk_318_11 rfl rfl (fun M310 I311 q312 K313 K313M => ?_)
                              have K314 : ∀ (a o : Nat) (w : Value), T0 a = some (3, 3, o) → tm_at M0 a 0 2 w → tm_at M310 a 0 2 w := fun a o w h q => K313 _ 0 2 _ rfl (K291 a o w h q)
                              have K315 : ∀ (a : Nat) (w : Value), T0 a = some (0, 6, 0) → tm_at M0 a 6 8 w → tm_at M310 a 6 8 w := fun a w h q => K313 _ 6 8 _ rfl (K292 a w h q)
                              refine mv_aload_n d_TrustDesk_settle_41 rfl rfl ?_
                              refine mv_iload_n d_TrustDesk_settle_42 rfl rfl ?_
                              refine mv_if_ne_f (tgt := 50) d_TrustDesk_settle_43 (by decide) (by decide) ?_
                              refine mv_iconst (v := 1) d_TrustDesk_settle_46 (by decide) ?_
                              refine mv_goto (tgt := 51) d_TrustDesk_settle_47 (by decide) ?_
                              refine tr_putKM tm_okF I311 t290 (k := 5) rfl ⟨_, rfl⟩ (Or.inl (by decide)) d_TrustDesk_settle_51 p_TrustDesk_284_11 rfl rfl (fun M316 I317 q318 K319 K319M => ?_)
                              have K320 : ∀ (a o : Nat) (w : Value), T0 a = some (3, 3, o) → tm_at M0 a 0 2 w → tm_at M316 a 0 2 w := fun a o w h q => K319 _ 0 2 _ rfl (K314 a o w h q)
                              have K321 : ∀ (a : Nat) (w : Value), T0 a = some (0, 6, 0) → tm_at M0 a 6 8 w → tm_at M316 a 6 8 w := fun a w h q => K319 _ 6 8 _ rfl (K315 a w h q)
                              refine mv_iload_n d_TrustDesk_settle_54 rfl rfl ?_
                              refine mv_if_ne_f (tgt := 63) d_TrustDesk_settle_55 (by decide) (by decide) ?_
                              refine mv_aload_n d_TrustDesk_settle_58 rfl rfl ?_
                              refine mv_aload_n d_TrustDesk_settle_59 rfl rfl ?_
                              obtain ⟨_, b322, -⟩ := I317.1 _ _ t289
                              refine mv_callV (kc1 := 0) (ks1 := 0) (kc' := 0) (ks' := 0) (As := [.ref a19]) (st9 := [.ref a19, .ref o0]) d_TrustDesk_settle_60 lV_TrustDesk_321 b322 rfl (mj_enter (by decide) (Nat.le_of_ble_eq_true rfl) ?_) rfl (Nat.le_of_ble_eq_true rfl) (Nat.le_of_ble_eq_true rfl) (Nat.le_of_ble_eq_true rfl) (hst := rfl) (fun _ _ _ h => h)
                              refine mv_aload_n d_TrustDesk_carryOut_0 rfl rfl ?_
                              refine mv_aload_n d_TrustDesk_carryOut_1 rfl rfl ?_
                              refine tr_getK (k := 1) (K319 _ 11 1 _ rfl (K313 _ 11 1 _ rfl q301)) d_TrustDesk_carryOut_2 f_TrustDesk_302_11 ?_
                              obtain ⟨_, b323, -⟩ := I317.1 _ _ t289
                              refine mv_callV (kc1 := 0) (ks1 := 0) (kc' := 0) (ks' := 0) (As := [.int v31]) (st9 := [.int v31, .ref o0]) d_TrustDesk_carryOut_5 lV_TrustDesk_257 b323 rfl (mj_enter (by decide) (Nat.le_of_ble_eq_true rfl) ?_) rfl (Nat.le_of_ble_eq_true rfl) (Nat.le_of_ble_eq_true rfl) (Nat.le_of_ble_eq_true rfl) (hst := rfl) (fun _ _ _ h => h)
                              refine mv_iload_n d_TrustDesk_fundAt_0 rfl rfl ?_
                              have := mz_hi v31
                              refine mv_if_ltZ (tgt := 29) (a := v31.toInt) d_TrustDesk_fundAt_1 (by decide) rfl (fun b324 => absurd b324 (by omega)) (fun b324 => ?_)
                              refine mv_iload_n d_TrustDesk_fundAt_4 rfl rfl ?_
                              refine mv_aload_n d_TrustDesk_fundAt_5 rfl rfl ?_
                              refine tr_getK (k := 6) (K319 _ 12 6 _ rfl (K313 _ 12 6 _ rfl q293)) d_TrustDesk_fundAt_6 f_TrustDesk_53_12 ?_
                              obtain ⟨m326, e327, N328, f329, h325⟩ := tm_lsn I317 t294 (K319 _ 0 2 _ rfl (K313 _ 0 2 _ rfl q302))
                              refine mv_callV_s (kc' := 0) (ks' := 0) [] [.ref Lf, .int v31] d_TrustDesk_fundAt_9 lV_TrustDesk_97 h325.1 rfl (tc_L_size (d := (d + 7)) h325.1) rfl (Nat.le_of_ble_eq_true rfl) (Nat.le_of_ble_eq_true rfl) (Nat.le_of_ble_eq_true rfl) rfl ?_
                              have := mz_hi v31
                              have := mz_hi n51
                              refine mv_icmp_geZ (tgt := 29) (a := v31.toInt) (b := n51.toInt) d_TrustDesk_fundAt_12 (by decide) rfl rfl (fun b330 => ?_) (fun b330 => ?_)
                              · refine mv_null d_TrustDesk_fundAt_29 ?_
                                refine mv_aret (r := none) d_TrustDesk_fundAt_30 rfl (by first | exact Or.inl ⟨_, rfl⟩ | exact Or.inr ⟨_, rfl⟩) ?_
                                refine mv_astore_nN (lv' := [(2, .null), (0, .ref o0), (1, .ref a19)]) d_TrustDesk_carryOut_8 rfl (by decide) rfl ?_
                                refine mv_aload_nN d_TrustDesk_carryOut_9 rfl rfl ?_
                                refine mv_ifnonnullN d_TrustDesk_carryOut_10 ?_
                                refine mv_vret d_TrustDesk_carryOut_13 rfl ?_
                                refine mv_iload_n d_TrustDesk_settle_63 rfl rfl ?_
                                exact mv_iret d_TrustDesk_settle_64 rfl (by first | rfl | decide) ⟨_, I317, _, rfl, Or.inl ⟨K320, K321⟩⟩
                              · refine mv_aload_n d_TrustDesk_fundAt_15 rfl rfl ?_
                                refine tr_getK (k := 6) (K319 _ 12 6 _ rfl (K313 _ 12 6 _ rfl q293)) d_TrustDesk_fundAt_16 f_TrustDesk_53_12 ?_
                                refine mv_iload_n d_TrustDesk_fundAt_19 rfl rfl ?_
                                obtain ⟨m332, e333, N334, f335, h331⟩ := tm_lsn I317 t294 (K319 _ 0 2 _ rfl (K313 _ 0 2 _ rfl q302))
                                have u336e := (tm_el (i := v31) h331 (by omega) (by omega)).1
                                have u336i := (tm_el (i := v31) h331 (by omega) (by omega)).2.1
                                obtain ⟨_, u336f, u336t⟩ := tm_ge.el h331 (I317.keepG I0.1 h_Lf (by decide) g73)
                                have t_z337 : T280 a72 = some (0, 6, 0) := u336t
                                refine mv_callV_s (kc' := 0) (ks' := 0) [.int v31] [.int v31, .ref Lf] d_TrustDesk_fundAt_20 lV_TrustDesk_158 h331.1 rfl (tc_L_get (d := (d + 5)) h331.1 u336e (by omega) (by omega) u336i u336f) rfl (Nat.le_of_ble_eq_true rfl) (Nat.le_of_ble_eq_true rfl) (Nat.le_of_ble_eq_true rfl) rfl ?_
                                obtain ⟨_, b338, -⟩ := I317.1 _ _ t_z337
                                refine mv_castS (T9 := kF_Fund) (N := 15) d_TrustDesk_fundAt_23 (mj_in1 (List.mem_of_getElem? (i := 655) (by decide +kernel)) rfl) b338 rfl ?_
                                refine mv_goto (tgt := 30) d_TrustDesk_fundAt_26 (by decide) ?_
                                refine mv_aret (r := (some a72)) d_TrustDesk_fundAt_30 rfl (by first | exact Or.inl ⟨_, rfl⟩ | exact Or.inr ⟨_, rfl⟩) ?_
                                refine mv_astore_n (lv' := [(2, .ref a72), (0, .ref o0), (1, .ref a19)]) d_TrustDesk_carryOut_8 rfl (by decide) rfl ?_
                                refine mv_aload_n d_TrustDesk_carryOut_9 rfl rfl ?_
                                refine mv_ifnonnull (tgt := 14) d_TrustDesk_carryOut_10 (by decide) ?_
                                refine mv_aload_n d_TrustDesk_carryOut_14 rfl rfl ?_
                                refine tr_getK (k := 0) (K319 _ 11 0 _ rfl (K313 _ 11 0 _ rfl q304)) d_TrustDesk_carryOut_15 f_TrustDesk_308_11 ?_
                                refine mv_tableOut (tgt := 88) d_TrustDesk_carryOut_18 b83 (by decide) ?_
                                refine mv_aload_n d_TrustDesk_carryOut_88 rfl rfl ?_
                                refine mv_aload_n d_TrustDesk_carryOut_89 rfl rfl ?_
                                refine mv_aload_n d_TrustDesk_carryOut_90 rfl rfl ?_
                                refine tr_getK (k := 2) (K319 _ 11 2 _ rfl (K313 _ 11 2 _ rfl q305)) d_TrustDesk_carryOut_91 f_TrustDesk_311_11 ?_
                                obtain ⟨_, b345, -⟩ := I317.1 _ _ t_z337
                                refine mv_callV (kc' := 0) (ks' := 0) (As := [.int v85]) (st9 := [.int v85, .ref a72, .ref o0]) d_TrustDesk_carryOut_94 lV_TrustDesk_359 b345 rfl (tc_Fund_endAt (d := (d + 5)) (x9 := x9) (o0 := a72) (x1 := v85) t_z337 I317.start) rfl (Nat.le_of_ble_eq_true rfl) (Nat.le_of_ble_eq_true rfl) (Nat.le_of_ble_eq_true rfl) (hst := rfl) (fun b339r M340 n341 b339 => ?_)
                                obtain ⟨T342, J343, b347⟩ := b339
                                have I344 := I317.call J343 (tm_sub (by decide)) (Or.inl rfl)
                                have t348 := J343.up t_z337
                                have t349 := J343.up t289
                                have t350 := J343.up t290
                                have K351 : ∀ (a o : Nat) (w : Value), T0 a = some (3, 3, o) → tm_at M0 a 0 2 w → tm_at M340 a 0 2 w := fun a o w h q => J343.keepL (I317.up h) (by decide) (K320 a o w h q)
                                have K352 : ∀ (a : Nat) (w : Value), T0 a = some (0, 6, 0) → tm_at M0 a 6 8 w → tm_at M340 a 6 8 w := fun a w h q => J343.keep (I317.up h) (by decide) (K321 a w h q)
                                have q353 := J343.keep t289 (by decide) (K319 _ 12 6 _ rfl (K313 _ 12 6 _ rfl q293))
                                have t354 := J343.up t294
                                have q355 := J343.keep t289 (by decide) (K319 _ 12 8 _ rfl (K313 _ 12 8 _ rfl q295))
                                have t356 := J343.up t296
                                have q357 := J343.keepL t296 (by decide) (K319 _ 0 2 _ rfl (K313 _ 0 2 _ rfl q297))
                                have q358 := J343.keep t289 (by decide) (K319 _ 12 12 _ rfl (K313 _ 12 12 _ rfl q299))
                                have q359 := J343.keep t290 (by decide) (K319 _ 11 4 _ rfl (K313 _ 11 4 _ rfl q300))
                                have q360 := J343.keep t290 (by decide) (K319 _ 11 1 _ rfl (K313 _ 11 1 _ rfl q301))
                                have q361 := J343.keepL t294 (by decide) (K319 _ 0 2 _ rfl (K313 _ 0 2 _ rfl q302))
                                have q362 := J343.keep t288 (by decide) (K319 _ 6 8 _ rfl (K313 _ 6 8 _ rfl q303))
                                have q363 := J343.keep t290 (by decide) (K319 _ 11 0 _ rfl (K313 _ 11 0 _ rfl q304))
                                have q364 := J343.keep t290 (by decide) (K319 _ 11 2 _ rfl (K313 _ 11 2 _ rfl q305))
                                have q365 := J343.keep t290 (by decide) (K319 _ 11 7 _ rfl (K313 _ 11 7 _ rfl q307))
                                have q366 := J343.keep t290 (by decide) (K319 _ 11 6 _ rfl q312)
                                have q367 := J343.keep t290 (by decide) q318
                                rcases b347 with rfl | ⟨a346, rfl, t_a346⟩
                                · obtain ⟨_, b374, -⟩ := I344.1 _ _ t349
                                  refine mv_callV (kc' := 0) (ks' := 0) (As := [.null]) (st9 := [.null, .ref o0]) d_TrustDesk_carryOut_97 lV_TrustDesk_403 b374 rfl (tc_TrustDesk_strike_n1 (d := (d + 8)) (x9 := x9) (o0 := o0) t349 I344.start) rfl (Nat.le_of_ble_eq_true rfl) (Nat.le_of_ble_eq_true rfl) (Nat.le_of_ble_eq_true rfl) (hst := rfl) (fun b368r M369 n370 b368 => ?_)
                                  obtain ⟨T371, J372, rfl⟩ := b368
                                  have I373 := I344.call J372 (tm_sub (by decide)) (Or.inl rfl)
                                  have t375 := J372.up t348
                                  have t376 := J372.up t349
                                  have t377 := J372.up t350
                                  have K378 : ∀ (a o : Nat) (w : Value), T0 a = some (3, 3, o) → tm_at M0 a 0 2 w → tm_at M369 a 0 2 w := fun a o w h q => J372.keepL (I344.up h) (by decide) (K351 a o w h q)
                                  have K379 : ∀ (a : Nat) (w : Value), T0 a = some (0, 6, 0) → tm_at M0 a 6 8 w → tm_at M369 a 6 8 w := fun a w h q => J372.keep (I344.up h) (by decide) (K352 a w h q)
                                  have q380 := J372.keep t349 (by decide) q353
                                  have t381 := J372.up t354
                                  have q382 := J372.keep t349 (by decide) q355
                                  have t383 := J372.up t356
                                  have q384 := J372.keepL t356 (by decide) q357
                                  have q385 := J372.keep t349 (by decide) q358
                                  have q386 := J372.keep t350 (by decide) q359
                                  have q387 := J372.keep t350 (by decide) q360
                                  have q388 := J372.keepL t354 (by decide) q361
                                  have q389 := J372.keep t348 (by decide) q362
                                  have q390 := J372.keep t350 (by decide) q363
                                  have q391 := J372.keep t350 (by decide) q364
                                  have q392 := J372.keep t350 (by decide) q365
                                  have q393 := J372.keep t350 (by decide) q366
                                  have q394 := J372.keep t350 (by decide) q367
                                  refine mv_vret d_TrustDesk_carryOut_100 rfl ?_
                                  refine mv_iload_n d_TrustDesk_settle_63 rfl rfl ?_
                                  exact mv_iret d_TrustDesk_settle_64 rfl (by first | rfl | decide) ⟨_, I373, _, rfl, Or.inl ⟨K378, K379⟩⟩
                                · obtain ⟨_, b401, -⟩ := I344.1 _ _ t349
                                  refine mv_callV (kc' := 0) (ks' := 0) (As := [.ref a346]) (st9 := [.ref a346, .ref o0]) d_TrustDesk_carryOut_97 lV_TrustDesk_403 b401 rfl (tc_TrustDesk_strike (d := (d + 8)) (x9 := x9) (o0 := o0) (o1 := a346) t349 t_a346 I344.start) rfl (Nat.le_of_ble_eq_true rfl) (Nat.le_of_ble_eq_true rfl) (Nat.le_of_ble_eq_true rfl) (hst := rfl) (fun b395r M396 n397 b395 => ?_)
                                  obtain ⟨T398, J399, rfl⟩ := b395
                                  have I400 := I344.call J399 (tm_sub (by decide)) (Or.inl rfl)
                                  have t402 := J399.up t348
                                  have t403 := J399.up t349
                                  have t404 := J399.up t350
                                  have K405 : ∀ (a o : Nat) (w : Value), T0 a = some (3, 3, o) → tm_at M0 a 0 2 w → tm_at M396 a 0 2 w := fun a o w h q => J399.keepL (I344.up h) (by decide) (K351 a o w h q)
                                  have K406 : ∀ (a : Nat) (w : Value), T0 a = some (0, 6, 0) → tm_at M0 a 6 8 w → tm_at M396 a 6 8 w := fun a w h q => J399.keep (I344.up h) (by decide) (K352 a w h q)
                                  have q407 := J399.keep t349 (by decide) q353
                                  have t408 := J399.up t354
                                  have q409 := J399.keep t349 (by decide) q355
                                  have t410 := J399.up t356
                                  have q411 := J399.keepL t356 (by decide) q357
                                  have q412 := J399.keep t349 (by decide) q358
                                  have q413 := J399.keep t350 (by decide) q359
                                  have q414 := J399.keep t350 (by decide) q360
                                  have q415 := J399.keepL t354 (by decide) q361
                                  have q416 := J399.keep t348 (by decide) q362
                                  have q417 := J399.keep t350 (by decide) q363
                                  have q418 := J399.keep t350 (by decide) q364
                                  have q419 := J399.keep t350 (by decide) q365
                                  have q420 := J399.keep t350 (by decide) q366
                                  have q421 := J399.keep t350 (by decide) q367
                                  refine mv_vret d_TrustDesk_carryOut_100 rfl ?_
                                  refine mv_iload_n d_TrustDesk_settle_63 rfl rfl ?_
                                  exact mv_iret d_TrustDesk_settle_64 rfl (by first | rfl | decide) ⟨_, I400, _, rfl, Or.inl ⟨K405, K406⟩⟩
                            · refine mv_iconst (v := 5) d_TrustDesk_failureOf_85 (by decide) ?_
                              refine mv_goto (tgt := 90) d_TrustDesk_failureOf_86 (by decide) ?_
                              refine mv_iret d_TrustDesk_failureOf_90 rfl (by first | rfl | decide) ?_
                              refine mv_istore_n (lv' := [(3, .int 5), (2, .ref a19), (0, .ref o0), (1, .int x1)]) d_TrustDesk_settle_35 rfl (by decide) rfl ?_
                              refine mv_aload_n d_TrustDesk_settle_36 rfl rfl ?_
                              refine mv_iload_n d_TrustDesk_settle_37 rfl rfl ?_
                              refine tr_putKM tm_okF I282 t290 (k := 6) rfl ⟨_, rfl⟩ (Or.inl (by decide)) d_TrustDesk_settle_38 p_TrustDesk_318_11 rfl rfl (fun M422 I423 q424 K425 K425M => ?_)
                              have K426 : ∀ (a o : Nat) (w : Value), T0 a = some (3, 3, o) → tm_at M0 a 0 2 w → tm_at M422 a 0 2 w := fun a o w h q => K425 _ 0 2 _ rfl (K291 a o w h q)
                              have K427 : ∀ (a : Nat) (w : Value), T0 a = some (0, 6, 0) → tm_at M0 a 6 8 w → tm_at M422 a 6 8 w := fun a w h q => K425 _ 6 8 _ rfl (K292 a w h q)
                              refine mv_aload_n d_TrustDesk_settle_41 rfl rfl ?_
                              refine mv_iload_n d_TrustDesk_settle_42 rfl rfl ?_
                              refine mv_if_ne_t (tgt := 50) d_TrustDesk_settle_43 (by decide) (by decide) ?_
                              refine mv_iconst (v := 2) d_TrustDesk_settle_50 (by decide) ?_
                              refine tr_putKM tm_okF I423 t290 (k := 5) rfl ⟨_, rfl⟩ (Or.inl (by decide)) d_TrustDesk_settle_51 p_TrustDesk_284_11 rfl rfl (fun M428 I429 q430 K431 K431M => ?_)
                              have K432 : ∀ (a o : Nat) (w : Value), T0 a = some (3, 3, o) → tm_at M0 a 0 2 w → tm_at M428 a 0 2 w := fun a o w h q => K431 _ 0 2 _ rfl (K426 a o w h q)
                              have K433 : ∀ (a : Nat) (w : Value), T0 a = some (0, 6, 0) → tm_at M0 a 6 8 w → tm_at M428 a 6 8 w := fun a w h q => K431 _ 6 8 _ rfl (K427 a w h q)
                              refine mv_iload_n d_TrustDesk_settle_54 rfl rfl ?_
                              refine mv_if_ne_t (tgt := 63) d_TrustDesk_settle_55 (by decide) (by decide) ?_
                              refine mv_iload_n d_TrustDesk_settle_63 rfl rfl ?_
                              exact mv_iret d_TrustDesk_settle_64 rfl (by first | rfl | decide) ⟨_, I429, _, rfl, Or.inl ⟨K432, K433⟩⟩
                          · refine mv_iconst (v := 4) d_TrustDesk_failureOf_76 (by decide) ?_
                            refine mv_iret d_TrustDesk_failureOf_77 rfl (by first | rfl | decide) ?_
                            refine mv_istore_n (lv' := [(3, .int 4), (2, .ref a19), (0, .ref o0), (1, .int x1)]) d_TrustDesk_settle_35 rfl (by decide) rfl ?_
                            refine mv_aload_n d_TrustDesk_settle_36 rfl rfl ?_
                            refine mv_iload_n d_TrustDesk_settle_37 rfl rfl ?_
                            refine tr_putKM tm_okF I282 t290 (k := 6) rfl ⟨_, rfl⟩ (Or.inl (by decide)) d_TrustDesk_settle_38 p_TrustDesk_318_11 rfl rfl (fun M434 I435 q436 K437 K437M => ?_)
                            have K438 : ∀ (a o : Nat) (w : Value), T0 a = some (3, 3, o) → tm_at M0 a 0 2 w → tm_at M434 a 0 2 w := fun a o w h q => K437 _ 0 2 _ rfl (K291 a o w h q)
                            have K439 : ∀ (a : Nat) (w : Value), T0 a = some (0, 6, 0) → tm_at M0 a 6 8 w → tm_at M434 a 6 8 w := fun a w h q => K437 _ 6 8 _ rfl (K292 a w h q)
                            refine mv_aload_n d_TrustDesk_settle_41 rfl rfl ?_
                            refine mv_iload_n d_TrustDesk_settle_42 rfl rfl ?_
                            refine mv_if_ne_t (tgt := 50) d_TrustDesk_settle_43 (by decide) (by decide) ?_
                            refine mv_iconst (v := 2) d_TrustDesk_settle_50 (by decide) ?_
                            refine tr_putKM tm_okF I435 t290 (k := 5) rfl ⟨_, rfl⟩ (Or.inl (by decide)) d_TrustDesk_settle_51 p_TrustDesk_284_11 rfl rfl (fun M440 I441 q442 K443 K443M => ?_)
                            have K444 : ∀ (a o : Nat) (w : Value), T0 a = some (3, 3, o) → tm_at M0 a 0 2 w → tm_at M440 a 0 2 w := fun a o w h q => K443 _ 0 2 _ rfl (K438 a o w h q)
                            have K445 : ∀ (a : Nat) (w : Value), T0 a = some (0, 6, 0) → tm_at M0 a 6 8 w → tm_at M440 a 6 8 w := fun a w h q => K443 _ 6 8 _ rfl (K439 a w h q)
                            refine mv_iload_n d_TrustDesk_settle_54 rfl rfl ?_
                            refine mv_if_ne_t (tgt := 63) d_TrustDesk_settle_55 (by decide) (by decide) ?_
                            refine mv_iload_n d_TrustDesk_settle_63 rfl rfl ?_
                            exact mv_iret d_TrustDesk_settle_64 rfl (by first | rfl | decide) ⟨_, I441, _, rfl, Or.inl ⟨K444, K445⟩⟩
                        · refine mv_iconst (v := 3) d_TrustDesk_failureOf_65 (by decide) ?_
                          refine mv_iret d_TrustDesk_failureOf_66 rfl (by first | rfl | decide) ?_
                          refine mv_istore_n (lv' := [(3, .int 3), (2, .ref a19), (0, .ref o0), (1, .int x1)]) d_TrustDesk_settle_35 rfl (by decide) rfl ?_
                          refine mv_aload_n d_TrustDesk_settle_36 rfl rfl ?_
                          refine mv_iload_n d_TrustDesk_settle_37 rfl rfl ?_
                          refine tr_putKM tm_okF I254 t260 (k := 6) rfl ⟨_, rfl⟩ (Or.inl (by decide)) d_TrustDesk_settle_38 p_TrustDesk_318_11 rfl rfl (fun M446 I447 q448 K449 K449M => ?_)
                          have K450 : ∀ (a o : Nat) (w : Value), T0 a = some (3, 3, o) → tm_at M0 a 0 2 w → tm_at M446 a 0 2 w := fun a o w h q => K449 _ 0 2 _ rfl (K261 a o w h q)
                          have K451 : ∀ (a : Nat) (w : Value), T0 a = some (0, 6, 0) → tm_at M0 a 6 8 w → tm_at M446 a 6 8 w := fun a w h q => K449 _ 6 8 _ rfl (K262 a w h q)
                          refine mv_aload_n d_TrustDesk_settle_41 rfl rfl ?_
                          refine mv_iload_n d_TrustDesk_settle_42 rfl rfl ?_
                          refine mv_if_ne_t (tgt := 50) d_TrustDesk_settle_43 (by decide) (by decide) ?_
                          refine mv_iconst (v := 2) d_TrustDesk_settle_50 (by decide) ?_
                          refine tr_putKM tm_okF I447 t260 (k := 5) rfl ⟨_, rfl⟩ (Or.inl (by decide)) d_TrustDesk_settle_51 p_TrustDesk_284_11 rfl rfl (fun M452 I453 q454 K455 K455M => ?_)
                          have K456 : ∀ (a o : Nat) (w : Value), T0 a = some (3, 3, o) → tm_at M0 a 0 2 w → tm_at M452 a 0 2 w := fun a o w h q => K455 _ 0 2 _ rfl (K450 a o w h q)
                          have K457 : ∀ (a : Nat) (w : Value), T0 a = some (0, 6, 0) → tm_at M0 a 6 8 w → tm_at M452 a 6 8 w := fun a w h q => K455 _ 6 8 _ rfl (K451 a w h q)
                          refine mv_iload_n d_TrustDesk_settle_54 rfl rfl ?_
                          refine mv_if_ne_t (tgt := 63) d_TrustDesk_settle_55 (by decide) (by decide) ?_
                          refine mv_iload_n d_TrustDesk_settle_63 rfl rfl ?_
                          exact mv_iret d_TrustDesk_settle_64 rfl (by first | rfl | decide) ⟨_, I453, _, rfl, Or.inl ⟨K456, K457⟩⟩
                      · refine mv_iconst (v := 2) d_TrustDesk_failureOf_46 (by decide) ?_
                        refine mv_iret d_TrustDesk_failureOf_47 rfl (by first | rfl | decide) ?_
                        refine mv_istore_n (lv' := [(3, .int 2), (2, .ref a19), (0, .ref o0), (1, .int x1)]) d_TrustDesk_settle_35 rfl (by decide) rfl ?_
                        refine mv_aload_n d_TrustDesk_settle_36 rfl rfl ?_
                        refine mv_iload_n d_TrustDesk_settle_37 rfl rfl ?_
                        refine tr_putKM tm_okF I171 t179 (k := 6) rfl ⟨_, rfl⟩ (Or.inl (by decide)) d_TrustDesk_settle_38 p_TrustDesk_318_11 rfl rfl (fun M458 I459 q460 K461 K461M => ?_)
                        have K462 : ∀ (a o : Nat) (w : Value), T0 a = some (3, 3, o) → tm_at M0 a 0 2 w → tm_at M458 a 0 2 w := fun a o w h q => K461 _ 0 2 _ rfl (K180 a o w h q)
                        have K463 : ∀ (a : Nat) (w : Value), T0 a = some (0, 6, 0) → tm_at M0 a 6 8 w → tm_at M458 a 6 8 w := fun a w h q => K461 _ 6 8 _ rfl (K181 a w h q)
                        refine mv_aload_n d_TrustDesk_settle_41 rfl rfl ?_
                        refine mv_iload_n d_TrustDesk_settle_42 rfl rfl ?_
                        refine mv_if_ne_t (tgt := 50) d_TrustDesk_settle_43 (by decide) (by decide) ?_
                        refine mv_iconst (v := 2) d_TrustDesk_settle_50 (by decide) ?_
                        refine tr_putKM tm_okF I459 t179 (k := 5) rfl ⟨_, rfl⟩ (Or.inl (by decide)) d_TrustDesk_settle_51 p_TrustDesk_284_11 rfl rfl (fun M464 I465 q466 K467 K467M => ?_)
                        have K468 : ∀ (a o : Nat) (w : Value), T0 a = some (3, 3, o) → tm_at M0 a 0 2 w → tm_at M464 a 0 2 w := fun a o w h q => K467 _ 0 2 _ rfl (K462 a o w h q)
                        have K469 : ∀ (a : Nat) (w : Value), T0 a = some (0, 6, 0) → tm_at M0 a 6 8 w → tm_at M464 a 6 8 w := fun a w h q => K467 _ 6 8 _ rfl (K463 a w h q)
                        refine mv_iload_n d_TrustDesk_settle_54 rfl rfl ?_
                        refine mv_if_ne_t (tgt := 63) d_TrustDesk_settle_55 (by decide) (by decide) ?_
                        refine mv_iload_n d_TrustDesk_settle_63 rfl rfl ?_
                        exact mv_iret d_TrustDesk_settle_64 rfl (by first | rfl | decide) ⟨_, I465, _, rfl, Or.inl ⟨K468, K469⟩⟩
                · refine mv_tableIn (tgt := 40) (off := 27) d_TrustDesk_canBe_13 (by omega) (by omega) (by rw [b83]; rfl) (by decide) ?_
                  refine mv_aload_n d_TrustDesk_canBe_40 rfl rfl ?_
                  obtain ⟨_, b476, -⟩ := I0.1 _ _ t_z74
                  refine mv_callV (kc' := 0) (ks' := 0) (As := []) (st9 := [.ref a72]) d_TrustDesk_canBe_41 lV_TrustDesk_348 b476 rfl (tc_Fund_firstDead (d := (d + 4)) (x9 := x9) (o0 := a72) t_z74 I0.start) rfl (Nat.le_of_ble_eq_true rfl) (Nat.le_of_ble_eq_true rfl) (Nat.le_of_ble_eq_true rfl) (hst := rfl) (fun b470r M471 n472 b470 => ?_)
                  obtain ⟨T473, J474, b478⟩ := b470
                  have I475 := I0.call J474 (tm_sub (by decide)) (Or.inl rfl)
                  have t479 := J474.up h_o0
                  have t480 := J474.up t_a19
                  have t481 := J474.up t_z74
                  have K482 : ∀ (a o : Nat) (w : Value), T0 a = some (3, 3, o) → tm_at M0 a 0 2 w → tm_at M471 a 0 2 w := fun a o w h q => J474.keepL (I0.up h) (by decide) (K0L a o w h q)
                  have K483 : ∀ (a : Nat) (w : Value), T0 a = some (0, 6, 0) → tm_at M0 a 6 8 w → tm_at M471 a 6 8 w := fun a w h q => J474.keep (I0.up h) (by decide) (K0J a w h q)
                  have q484 := J474.keep h_o0 (by decide) q_Lf
                  have t485 := J474.up h_Lf
                  have q486 := J474.keep h_o0 (by decide) q3
                  have t487 := J474.up t_a4
                  have q488 := J474.keepL t_a4 (by decide) q11
                  have q489 := J474.keep t_a19 (by decide) q21
                  have q490 := J474.keep h_o0 (by decide) q24
                  have q491 := J474.keep t_a19 (by decide) q26
                  have q492 := J474.keep t_a19 (by decide) q30
                  have q493 := J474.keepL h_Lf (by decide) q52
                  have q494 := J474.keep t_z74 (by decide) q78
                  have q495 := J474.keep t_a19 (by decide) q81
                  rcases b478 with rfl | ⟨a477, rfl, t_a477⟩
                  · refine mv_ifnullN (tgt := 51) d_TrustDesk_canBe_44 (by decide) ?_
                    refine mv_iconst (v := 0) d_TrustDesk_canBe_51 (by decide) ?_
                    refine mv_iret d_TrustDesk_canBe_52 rfl (by decide) ?_
                    refine mv_if_ne_f (tgt := 24) d_TrustDesk_failureOf_19 (by decide) (by decide) ?_
                    refine mv_iconst (v := 1) d_TrustDesk_failureOf_22 (by decide) ?_
                    refine mv_iret d_TrustDesk_failureOf_23 rfl (by first | rfl | decide) ?_
                    refine mv_istore_n (lv' := [(3, .int 1), (2, .ref a19), (0, .ref o0), (1, .int x1)]) d_TrustDesk_settle_35 rfl (by decide) rfl ?_
                    refine mv_aload_n d_TrustDesk_settle_36 rfl rfl ?_
                    refine mv_iload_n d_TrustDesk_settle_37 rfl rfl ?_
                    refine tr_putKM tm_okF I475 t480 (k := 6) rfl ⟨_, rfl⟩ (Or.inl (by decide)) d_TrustDesk_settle_38 p_TrustDesk_318_11 rfl rfl (fun M496 I497 q498 K499 K499M => ?_)
                    have K500 : ∀ (a o : Nat) (w : Value), T0 a = some (3, 3, o) → tm_at M0 a 0 2 w → tm_at M496 a 0 2 w := fun a o w h q => K499 _ 0 2 _ rfl (K482 a o w h q)
                    have K501 : ∀ (a : Nat) (w : Value), T0 a = some (0, 6, 0) → tm_at M0 a 6 8 w → tm_at M496 a 6 8 w := fun a w h q => K499 _ 6 8 _ rfl (K483 a w h q)
                    refine mv_aload_n d_TrustDesk_settle_41 rfl rfl ?_
                    refine mv_iload_n d_TrustDesk_settle_42 rfl rfl ?_
                    refine mv_if_ne_t (tgt := 50) d_TrustDesk_settle_43 (by decide) (by decide) ?_
                    refine mv_iconst (v := 2) d_TrustDesk_settle_50 (by decide) ?_
                    refine tr_putKM tm_okF I497 t480 (k := 5) rfl ⟨_, rfl⟩ (Or.inl (by decide)) d_TrustDesk_settle_51 p_TrustDesk_284_11 rfl rfl (fun M502 I503 q504 K505 K505M => ?_)
                    have K506 : ∀ (a o : Nat) (w : Value), T0 a = some (3, 3, o) → tm_at M0 a 0 2 w → tm_at M502 a 0 2 w := fun a o w h q => K505 _ 0 2 _ rfl (K500 a o w h q)
                    have K507 : ∀ (a : Nat) (w : Value), T0 a = some (0, 6, 0) → tm_at M0 a 6 8 w → tm_at M502 a 6 8 w := fun a w h q => K505 _ 6 8 _ rfl (K501 a w h q)
                    refine mv_iload_n d_TrustDesk_settle_54 rfl rfl ?_
                    refine mv_if_ne_t (tgt := 63) d_TrustDesk_settle_55 (by decide) (by decide) ?_
                    refine mv_iload_n d_TrustDesk_settle_63 rfl rfl ?_
                    exact mv_iret d_TrustDesk_settle_64 rfl (by first | rfl | decide) ⟨_, I503, _, rfl, Or.inl ⟨K506, K507⟩⟩
                  · refine mv_ifnull d_TrustDesk_canBe_44 ?_
                    refine mv_iconst (v := 1) d_TrustDesk_canBe_47 (by decide) ?_
                    refine mv_goto (tgt := 52) d_TrustDesk_canBe_48 (by decide) ?_
                    refine mv_iret d_TrustDesk_canBe_52 rfl (by decide) ?_
                    refine mv_if_ne_t (tgt := 24) d_TrustDesk_failureOf_19 (by decide) (by decide) ?_
                    refine mv_aload_n d_TrustDesk_failureOf_24 rfl rfl ?_
                    refine mv_aload_n d_TrustDesk_failureOf_25 rfl rfl ?_
                    refine tr_getK (k := 12) q490 d_TrustDesk_failureOf_26 f_TrustDesk_73_12 ?_
                    obtain ⟨_, b514, -⟩ := I475.1 _ _ t479
                    refine mv_callV (kc' := 0) (ks' := 0) (As := [.int v25]) (st9 := [.int v25, .ref o0]) d_TrustDesk_failureOf_29 lV_TrustDesk_114 b514 rfl (tc_TrustDesk_inForce (d := (d + 5)) (x9 := x9) (o0 := o0) (x1 := v25) t479 I475.start) rfl (Nat.le_of_ble_eq_true rfl) (Nat.le_of_ble_eq_true rfl) (Nat.le_of_ble_eq_true rfl) (hst := rfl) (fun b508r M509 n510 b508 => ?_)
                    obtain ⟨T511, J512, a515, rfl, t_a515⟩ := b508
                    have I513 := I475.call J512 (tm_sub (by decide)) (Or.inl rfl)
                    have t516 := J512.up t481
                    have t517 := J512.up t479
                    have t518 := J512.up t480
                    have K519 : ∀ (a o : Nat) (w : Value), T0 a = some (3, 3, o) → tm_at M0 a 0 2 w → tm_at M509 a 0 2 w := fun a o w h q => J512.keepL (I475.up h) (by decide) (K482 a o w h q)
                    have K520 : ∀ (a : Nat) (w : Value), T0 a = some (0, 6, 0) → tm_at M0 a 6 8 w → tm_at M509 a 6 8 w := fun a w h q => J512.keep (I475.up h) (by decide) (K483 a w h q)
                    have q521 := J512.keep t479 (by decide) q484
                    have t522 := J512.up t485
                    have q523 := J512.keep t479 (by decide) q486
                    have t524 := J512.up t487
                    have q525 := J512.keepL t487 (by decide) q488
                    have q526 := J512.keep t480 (by decide) q489
                    have q527 := J512.keep t479 (by decide) q490
                    have q528 := J512.keep t480 (by decide) q491
                    have q529 := J512.keep t480 (by decide) q492
                    have q530 := J512.keepL t485 (by decide) q493
                    have q531 := J512.keep t481 (by decide) q494
                    have q532 := J512.keep t480 (by decide) q495
                    refine mv_astore_n (lv' := [(3, .ref a515), (2, .ref a72), (0, .ref o0), (1, .ref a19)]) d_TrustDesk_failureOf_32 rfl (by decide) rfl ?_
                    refine mv_aload_n d_TrustDesk_failureOf_33 rfl rfl ?_
                    refine mv_aload_n d_TrustDesk_failureOf_34 rfl rfl ?_
                    refine tr_getK (k := 0) q532 d_TrustDesk_failureOf_35 f_TrustDesk_308_11 ?_
                    refine mv_aload_n d_TrustDesk_failureOf_38 rfl rfl ?_
                    refine mv_aload_n d_TrustDesk_failureOf_39 rfl rfl ?_
                    obtain ⟨_, b539, -⟩ := I513.1 _ _ t517
                    refine mv_callV (kc' := 0) (ks' := 0) (As := [.int v82, .ref a72, .ref a515]) (st9 := [.ref a515, .ref a72, .int v82, .ref o0]) d_TrustDesk_failureOf_40 lV_TrustDesk_329 b539 rfl (tc_TrustDesk_isBarred (d := (d + 4)) (x9 := x9) (o0 := o0) (x1 := v82) (o2 := a72) (o3 := a515) t517 t516 t_a515 I513.start) rfl (Nat.le_of_ble_eq_true rfl) (Nat.le_of_ble_eq_true rfl) (Nat.le_of_ble_eq_true rfl) (hst := rfl) (fun b533r M534 n535 b533 => ?_)
                    obtain ⟨T536, J537, v540, rfl, b541, b542⟩ := b533
                    have I538 := I513.call J537 (tm_sub (by decide)) (Or.inl rfl)
                    have t543 := J537.up t_a515
                    have t544 := J537.up t516
                    have t545 := J537.up t517
                    have t546 := J537.up t518
                    have K547 : ∀ (a o : Nat) (w : Value), T0 a = some (3, 3, o) → tm_at M0 a 0 2 w → tm_at M534 a 0 2 w := fun a o w h q => J537.keepL (I513.up h) (by decide) (K519 a o w h q)
                    have K548 : ∀ (a : Nat) (w : Value), T0 a = some (0, 6, 0) → tm_at M0 a 6 8 w → tm_at M534 a 6 8 w := fun a w h q => J537.keep (I513.up h) (by decide) (K520 a w h q)
                    have q549 := J537.keep t517 (by decide) q521
                    have t550 := J537.up t522
                    have q551 := J537.keep t517 (by decide) q523
                    have t552 := J537.up t524
                    have q553 := J537.keepL t524 (by decide) q525
                    have q554 := J537.keep t518 (by decide) q526
                    have q555 := J537.keep t517 (by decide) q527
                    have q556 := J537.keep t518 (by decide) q528
                    have q557 := J537.keep t518 (by decide) q529
                    have q558 := J537.keepL t522 (by decide) q530
                    have q559 := J537.keep t516 (by decide) q531
                    have q560 := J537.keep t518 (by decide) q532
                    have := mz_hi v540
                    refine mv_if_eqZ (tgt := 48) (a := v540.toInt) d_TrustDesk_failureOf_43 (by decide) rfl (fun b561 => ?_) (fun b561 => ?_)
                    · refine mv_aload_n d_TrustDesk_failureOf_48 rfl rfl ?_
                      refine mv_aload_n d_TrustDesk_failureOf_49 rfl rfl ?_
                      refine mv_aload_n d_TrustDesk_failureOf_50 rfl rfl ?_
                      obtain ⟨_, b568, -⟩ := I538.1 _ _ t545
                      refine mv_callV (kc' := 0) (ks' := 0) (As := [.ref a19, .ref a72]) (st9 := [.ref a72, .ref a19, .ref o0]) d_TrustDesk_failureOf_51 lV_TrustDesk_333 b568 rfl (tc_TrustDesk_marksLeft (d := (d + 4)) (x9 := x9) (o0 := o0) (o1 := a19) (o2 := a72) t545 t546 t544 I538.start) rfl (Nat.le_of_ble_eq_true rfl) (Nat.le_of_ble_eq_true rfl) (Nat.le_of_ble_eq_true rfl) (hst := rfl) (fun b562r M563 n564 b562 => ?_)
                      obtain ⟨T565, J566, v569, rfl⟩ := b562
                      have I567 := I538.call J566 (tm_sub (by decide)) (Or.inl rfl)
                      have t570 := J566.up t543
                      have t571 := J566.up t544
                      have t572 := J566.up t545
                      have t573 := J566.up t546
                      have K574 : ∀ (a o : Nat) (w : Value), T0 a = some (3, 3, o) → tm_at M0 a 0 2 w → tm_at M563 a 0 2 w := fun a o w h q => J566.keepL (I538.up h) (by decide) (K547 a o w h q)
                      have K575 : ∀ (a : Nat) (w : Value), T0 a = some (0, 6, 0) → tm_at M0 a 6 8 w → tm_at M563 a 6 8 w := fun a w h q => J566.keep (I538.up h) (by decide) (K548 a w h q)
                      have q576 := J566.keep t545 (by decide) q549
                      have t577 := J566.up t550
                      have q578 := J566.keep t545 (by decide) q551
                      have t579 := J566.up t552
                      have q580 := J566.keepL t552 (by decide) q553
                      have q581 := J566.keep t546 (by decide) q554
                      have q582 := J566.keep t545 (by decide) q555
                      have q583 := J566.keep t546 (by decide) q556
                      have q584 := J566.keep t546 (by decide) q557
                      have q585 := J566.keepL t550 (by decide) q558
                      have q586 := J566.keep t544 (by decide) q559
                      have q587 := J566.keep t546 (by decide) q560
                      refine mv_callS (kc' := 0) (ks' := 0) (As := [.int v569]) (st9 := [.int v569]) d_TrustDesk_failureOf_54 lS_TrustDesk_337 (tc_Integer_bitCount (d := (d + 8)) (x9 := x9) (x1 := v569)  I567.start) rfl (Nat.le_of_ble_eq_true rfl) (Nat.le_of_ble_eq_true rfl) (Nat.le_of_ble_eq_true rfl) (hst := rfl) (fun b588r M589 n590 b588 => ?_)
                      obtain ⟨T591, J592, v594, rfl⟩ := b588
                      have I593 := I567.call J592 (tm_sub (by decide)) (Or.inl rfl)
                      have t595 := J592.up t570
                      have t596 := J592.up t571
                      have t597 := J592.up t572
                      have t598 := J592.up t573
                      have K599 : ∀ (a o : Nat) (w : Value), T0 a = some (3, 3, o) → tm_at M0 a 0 2 w → tm_at M589 a 0 2 w := fun a o w h q => J592.keepL (I567.up h) (by decide) (K574 a o w h q)
                      have K600 : ∀ (a : Nat) (w : Value), T0 a = some (0, 6, 0) → tm_at M0 a 6 8 w → tm_at M589 a 6 8 w := fun a w h q => J592.keep (I567.up h) (by decide) (K575 a w h q)
                      have q601 := J592.keep t572 (by decide) q576
                      have t602 := J592.up t577
                      have q603 := J592.keep t572 (by decide) q578
                      have t604 := J592.up t579
                      have q605 := J592.keepL t579 (by decide) q580
                      have q606 := J592.keep t573 (by decide) q581
                      have q607 := J592.keep t572 (by decide) q582
                      have q608 := J592.keep t573 (by decide) q583
                      have q609 := J592.keep t573 (by decide) q584
                      have q610 := J592.keepL t577 (by decide) q585
                      have q611 := J592.keep t571 (by decide) q586
                      have q612 := J592.keep t573 (by decide) q587
                      refine mv_aload_n d_TrustDesk_failureOf_57 rfl rfl ?_
                      refine mv_iconst (v := 1) d_TrustDesk_failureOf_58 (by decide) ?_
                      obtain ⟨_, b619, -⟩ := I593.1 _ _ t595
                      refine mv_callV (kc' := 0) (ks' := 0) (As := [.int 1]) (st9 := [.int 1, .ref a515, .int v594]) d_TrustDesk_failureOf_59 lV_TrustDesk_118 b619 rfl (tc_Act_rule (d := (d + 8)) (x9 := x9) (o0 := a515) (x1 := 1) t595 I593.start) rfl (Nat.le_of_ble_eq_true rfl) (Nat.le_of_ble_eq_true rfl) (Nat.le_of_ble_eq_true rfl) (hst := rfl) (fun b613r M614 n615 b613 => ?_)
                      obtain ⟨T616, J617, v620, rfl⟩ := b613
                      have I618 := I593.call J617 (tm_sub (by decide)) (Or.inl rfl)
                      have t621 := J617.up t595
                      have t622 := J617.up t596
                      have t623 := J617.up t597
                      have t624 := J617.up t598
                      have K625 : ∀ (a o : Nat) (w : Value), T0 a = some (3, 3, o) → tm_at M0 a 0 2 w → tm_at M614 a 0 2 w := fun a o w h q => J617.keepL (I593.up h) (by decide) (K599 a o w h q)
                      have K626 : ∀ (a : Nat) (w : Value), T0 a = some (0, 6, 0) → tm_at M0 a 6 8 w → tm_at M614 a 6 8 w := fun a w h q => J617.keep (I593.up h) (by decide) (K600 a w h q)
                      have q627 := J617.keep t597 (by decide) q601
                      have t628 := J617.up t602
                      have q629 := J617.keep t597 (by decide) q603
                      have t630 := J617.up t604
                      have q631 := J617.keepL t604 (by decide) q605
                      have q632 := J617.keep t598 (by decide) q606
                      have q633 := J617.keep t597 (by decide) q607
                      have q634 := J617.keep t598 (by decide) q608
                      have q635 := J617.keep t598 (by decide) q609
                      have q636 := J617.keepL t602 (by decide) q610
                      have q637 := J617.keep t596 (by decide) q611
                      have q638 := J617.keep t598 (by decide) q612
                      have := mz_hi v594
                      have := mz_hi v620
                      refine mv_icmp_geZ (tgt := 67) (a := v594.toInt) (b := v620.toInt) d_TrustDesk_failureOf_62 (by decide) rfl rfl (fun b639 => ?_) (fun b639 => ?_)
                      · refine mv_aload_n d_TrustDesk_failureOf_67 rfl rfl ?_
                        refine mv_aload_n d_TrustDesk_failureOf_68 rfl rfl ?_
                        refine mv_aload_n d_TrustDesk_failureOf_69 rfl rfl ?_
                        obtain ⟨_, b646, -⟩ := I618.1 _ _ t623
                        refine mv_callV (kc' := 0) (ks' := 0) (As := [.ref a19, .ref a72]) (st9 := [.ref a72, .ref a19, .ref o0]) d_TrustDesk_failureOf_70 lV_TrustDesk_342 b646 rfl (tc_TrustDesk_isCarried (d := (d + 4)) (x9 := x9) (o0 := o0) (o1 := a19) (o2 := a72) t623 t624 t622 I618.start) rfl (Nat.le_of_ble_eq_true rfl) (Nat.le_of_ble_eq_true rfl) (Nat.le_of_ble_eq_true rfl) (hst := rfl) (fun b640r M641 n642 b640 => ?_)
                        obtain ⟨T643, J644, v647, rfl, b648, b649⟩ := b640
                        have I645 := I618.call J644 (tm_sub (by decide)) (Or.inl rfl)
                        have t650 := J644.up t621
                        have t651 := J644.up t622
                        have t652 := J644.up t623
                        have t653 := J644.up t624
                        have K654 : ∀ (a o : Nat) (w : Value), T0 a = some (3, 3, o) → tm_at M0 a 0 2 w → tm_at M641 a 0 2 w := fun a o w h q => J644.keepL (I618.up h) (by decide) (K625 a o w h q)
                        have K655 : ∀ (a : Nat) (w : Value), T0 a = some (0, 6, 0) → tm_at M0 a 6 8 w → tm_at M641 a 6 8 w := fun a w h q => J644.keep (I618.up h) (by decide) (K626 a w h q)
                        have q656 := J644.keep t623 (by decide) q627
                        have t657 := J644.up t628
                        have q658 := J644.keep t623 (by decide) q629
                        have t659 := J644.up t630
                        have q660 := J644.keepL t630 (by decide) q631
                        have q661 := J644.keep t624 (by decide) q632
                        have q662 := J644.keep t623 (by decide) q633
                        have q663 := J644.keep t624 (by decide) q634
                        have q664 := J644.keep t624 (by decide) q635
                        have q665 := J644.keepL t628 (by decide) q636
                        have q666 := J644.keep t622 (by decide) q637
                        have q667 := J644.keep t624 (by decide) q638
                        have := mz_hi v647
                        refine mv_if_neZ (tgt := 78) (a := v647.toInt) d_TrustDesk_failureOf_73 (by decide) rfl (fun b668 => ?_) (fun b668 => ?_)
                        · refine mv_aload_n d_TrustDesk_failureOf_78 rfl rfl ?_
                          obtain ⟨v670, q669⟩ := tm_atI I645 t653 (k := 7) rfl
                          refine tr_getK q669 d_TrustDesk_failureOf_79 f_TrustDesk_345_11 ?_
                          have := mz_hi v670
                          refine mv_if_leZ (tgt := 89) (a := v670.toInt) d_TrustDesk_failureOf_82 (by decide) rfl (fun b671 => ?_) (fun b671 => ?_)
                          · refine mv_iconst (v := 0) d_TrustDesk_failureOf_89 (by decide) ?_
                            refine mv_iret d_TrustDesk_failureOf_90 rfl (by first | rfl | decide) ?_
                            refine mv_istore_n (lv' := [(3, .int 0), (2, .ref a19), (0, .ref o0), (1, .int x1)]) d_TrustDesk_settle_35 rfl (by decide) rfl ?_
                            refine mv_aload_n d_TrustDesk_settle_36 rfl rfl ?_
                            refine mv_iload_n d_TrustDesk_settle_37 rfl rfl ?_
                            refine tr_putKM tm_okF I645 t653 (k := 6) rfl ⟨_, rfl⟩ (Or.inl (by decide)) d_TrustDesk_settle_38 p_TrustDesk_318_11 rfl rfl (fun M672 I673 q674 K675 K675M => ?_)
                            have K676 : ∀ (a o : Nat) (w : Value), T0 a = some (3, 3, o) → tm_at M0 a 0 2 w → tm_at M672 a 0 2 w := fun a o w h q => K675 _ 0 2 _ rfl (K654 a o w h q)
                            have K677 : ∀ (a : Nat) (w : Value), T0 a = some (0, 6, 0) → tm_at M0 a 6 8 w → tm_at M672 a 6 8 w := fun a w h q => K675 _ 6 8 _ rfl (K655 a w h q)
                            refine mv_aload_n d_TrustDesk_settle_41 rfl rfl ?_
                            refine mv_iload_n d_TrustDesk_settle_42 rfl rfl ?_
                            refine mv_if_ne_f (tgt := 50) d_TrustDesk_settle_43 (by decide) (by decide) ?_
                            refine mv_iconst (v := 1) d_TrustDesk_settle_46 (by decide) ?_
                            refine mv_goto (tgt := 51) d_TrustDesk_settle_47 (by decide) ?_
                            refine tr_putKM tm_okF I673 t653 (k := 5) rfl ⟨_, rfl⟩ (Or.inl (by decide)) d_TrustDesk_settle_51 p_TrustDesk_284_11 rfl rfl (fun M678 I679 q680 K681 K681M => ?_)
                            have K682 : ∀ (a o : Nat) (w : Value), T0 a = some (3, 3, o) → tm_at M0 a 0 2 w → tm_at M678 a 0 2 w := fun a o w h q => K681 _ 0 2 _ rfl (K676 a o w h q)
                            have K683 : ∀ (a : Nat) (w : Value), T0 a = some (0, 6, 0) → tm_at M0 a 6 8 w → tm_at M678 a 6 8 w := fun a w h q => K681 _ 6 8 _ rfl (K677 a w h q)
                            refine mv_iload_n d_TrustDesk_settle_54 rfl rfl ?_
                            refine mv_if_ne_f (tgt := 63) d_TrustDesk_settle_55 (by decide) (by decide) ?_
                            refine mv_aload_n d_TrustDesk_settle_58 rfl rfl ?_
                            refine mv_aload_n d_TrustDesk_settle_59 rfl rfl ?_
                            obtain ⟨_, b684, -⟩ := I679.1 _ _ t652
                            refine mv_callV (kc1 := 0) (ks1 := 0) (kc' := 0) (ks' := 0) (As := [.ref a19]) (st9 := [.ref a19, .ref o0]) d_TrustDesk_settle_60 lV_TrustDesk_321 b684 rfl (mj_enter (by decide) (Nat.le_of_ble_eq_true rfl) ?_) rfl (Nat.le_of_ble_eq_true rfl) (Nat.le_of_ble_eq_true rfl) (Nat.le_of_ble_eq_true rfl) (hst := rfl) (fun _ _ _ h => h)
                            refine mv_aload_n d_TrustDesk_carryOut_0 rfl rfl ?_
                            refine mv_aload_n d_TrustDesk_carryOut_1 rfl rfl ?_
                            refine tr_getK (k := 1) (K681 _ 11 1 _ rfl (K675 _ 11 1 _ rfl q664)) d_TrustDesk_carryOut_2 f_TrustDesk_302_11 ?_
                            obtain ⟨_, b685, -⟩ := I679.1 _ _ t652
                            refine mv_callV (kc1 := 0) (ks1 := 0) (kc' := 0) (ks' := 0) (As := [.int v31]) (st9 := [.int v31, .ref o0]) d_TrustDesk_carryOut_5 lV_TrustDesk_257 b685 rfl (mj_enter (by decide) (Nat.le_of_ble_eq_true rfl) ?_) rfl (Nat.le_of_ble_eq_true rfl) (Nat.le_of_ble_eq_true rfl) (Nat.le_of_ble_eq_true rfl) (hst := rfl) (fun _ _ _ h => h)
                            refine mv_iload_n d_TrustDesk_fundAt_0 rfl rfl ?_
                            have := mz_hi v31
                            refine mv_if_ltZ (tgt := 29) (a := v31.toInt) d_TrustDesk_fundAt_1 (by decide) rfl (fun b686 => absurd b686 (by omega)) (fun b686 => ?_)
                            refine mv_iload_n d_TrustDesk_fundAt_4 rfl rfl ?_
                            refine mv_aload_n d_TrustDesk_fundAt_5 rfl rfl ?_
                            refine tr_getK (k := 6) (K681 _ 12 6 _ rfl (K675 _ 12 6 _ rfl q656)) d_TrustDesk_fundAt_6 f_TrustDesk_53_12 ?_
                            obtain ⟨m688, e689, N690, f691, h687⟩ := tm_lsn I679 t657 (K681 _ 0 2 _ rfl (K675 _ 0 2 _ rfl q665))
                            refine mv_callV_s (kc' := 0) (ks' := 0) [] [.ref Lf, .int v31] d_TrustDesk_fundAt_9 lV_TrustDesk_97 h687.1 rfl (tc_L_size (d := (d + 7)) h687.1) rfl (Nat.le_of_ble_eq_true rfl) (Nat.le_of_ble_eq_true rfl) (Nat.le_of_ble_eq_true rfl) rfl ?_
                            have := mz_hi v31
                            have := mz_hi n51
                            refine mv_icmp_geZ (tgt := 29) (a := v31.toInt) (b := n51.toInt) d_TrustDesk_fundAt_12 (by decide) rfl rfl (fun b692 => ?_) (fun b692 => ?_)
                            · refine mv_null d_TrustDesk_fundAt_29 ?_
                              refine mv_aret (r := none) d_TrustDesk_fundAt_30 rfl (by first | exact Or.inl ⟨_, rfl⟩ | exact Or.inr ⟨_, rfl⟩) ?_
                              refine mv_astore_nN (lv' := [(2, .null), (0, .ref o0), (1, .ref a19)]) d_TrustDesk_carryOut_8 rfl (by decide) rfl ?_
                              refine mv_aload_nN d_TrustDesk_carryOut_9 rfl rfl ?_
                              refine mv_ifnonnullN d_TrustDesk_carryOut_10 ?_
                              refine mv_vret d_TrustDesk_carryOut_13 rfl ?_
                              refine mv_iload_n d_TrustDesk_settle_63 rfl rfl ?_
                              exact mv_iret d_TrustDesk_settle_64 rfl (by first | rfl | decide) ⟨_, I679, _, rfl, Or.inl ⟨K682, K683⟩⟩
                            · refine mv_aload_n d_TrustDesk_fundAt_15 rfl rfl ?_
                              refine tr_getK (k := 6) (K681 _ 12 6 _ rfl (K675 _ 12 6 _ rfl q656)) d_TrustDesk_fundAt_16 f_TrustDesk_53_12 ?_
                              refine mv_iload_n d_TrustDesk_fundAt_19 rfl rfl ?_
                              obtain ⟨m694, e695, N696, f697, h693⟩ := tm_lsn I679 t657 (K681 _ 0 2 _ rfl (K675 _ 0 2 _ rfl q665))
                              have u698e := (tm_el (i := v31) h693 (by omega) (by omega)).1
                              have u698i := (tm_el (i := v31) h693 (by omega) (by omega)).2.1
                              obtain ⟨_, u698f, u698t⟩ := tm_ge.el h693 (I679.keepG I0.1 h_Lf (by decide) g73)
                              have t_z699 : T643 a72 = some (0, 6, 0) := u698t
                              refine mv_callV_s (kc' := 0) (ks' := 0) [.int v31] [.int v31, .ref Lf] d_TrustDesk_fundAt_20 lV_TrustDesk_158 h693.1 rfl (tc_L_get (d := (d + 5)) h693.1 u698e (by omega) (by omega) u698i u698f) rfl (Nat.le_of_ble_eq_true rfl) (Nat.le_of_ble_eq_true rfl) (Nat.le_of_ble_eq_true rfl) rfl ?_
                              obtain ⟨_, b700, -⟩ := I679.1 _ _ t_z699
                              refine mv_castS (T9 := kF_Fund) (N := 15) d_TrustDesk_fundAt_23 (mj_in1 (List.mem_of_getElem? (i := 655) (by decide +kernel)) rfl) b700 rfl ?_
                              refine mv_goto (tgt := 30) d_TrustDesk_fundAt_26 (by decide) ?_
                              refine mv_aret (r := (some a72)) d_TrustDesk_fundAt_30 rfl (by first | exact Or.inl ⟨_, rfl⟩ | exact Or.inr ⟨_, rfl⟩) ?_
                              refine mv_astore_n (lv' := [(2, .ref a72), (0, .ref o0), (1, .ref a19)]) d_TrustDesk_carryOut_8 rfl (by decide) rfl ?_
                              refine mv_aload_n d_TrustDesk_carryOut_9 rfl rfl ?_
                              refine mv_ifnonnull (tgt := 14) d_TrustDesk_carryOut_10 (by decide) ?_
                              refine mv_aload_n d_TrustDesk_carryOut_14 rfl rfl ?_
                              refine tr_getK (k := 0) (K681 _ 11 0 _ rfl (K675 _ 11 0 _ rfl q667)) d_TrustDesk_carryOut_15 f_TrustDesk_308_11 ?_
                              refine mv_tableIn (tgt := 44) (off := 26) d_TrustDesk_carryOut_18 (by omega) (by omega) (by rw [b83]; rfl) (by decide) ?_
                              refine mv_aload_n d_TrustDesk_carryOut_44 rfl rfl ?_
                              refine mv_aload_n d_TrustDesk_carryOut_45 rfl rfl ?_
                              refine mv_aload_n d_TrustDesk_carryOut_46 rfl rfl ?_
                              refine mv_aload_n d_TrustDesk_carryOut_47 rfl rfl ?_
                              obtain ⟨v702, q701⟩ := tm_atI I679 t653 (k := 2) rfl
                              refine tr_getK q701 d_TrustDesk_carryOut_48 f_TrustDesk_311_11 ?_
                              obtain ⟨_, b709, -⟩ := I679.1 _ _ t652
                              refine mv_callV (kc' := 0) (ks' := 0) (As := [.int v702]) (st9 := [.int v702, .ref o0, .ref a72, .ref o0]) d_TrustDesk_carryOut_51 lV_TrustDesk_276 b709 rfl (tc_TrustDesk_nearAt (d := (d + 5)) (x9 := x9) (o0 := o0) (x1 := v702) t652 I679.start) rfl (Nat.le_of_ble_eq_true rfl) (Nat.le_of_ble_eq_true rfl) (Nat.le_of_ble_eq_true rfl) (hst := rfl) (fun b703r M704 n705 b703 => ?_)
                              obtain ⟨T706, J707, b711⟩ := b703
                              have I708 := I679.call J707 (tm_sub (by decide)) (Or.inl rfl)
                              have t712 := J707.up t_z699
                              have t713 := J707.up t652
                              have t714 := J707.up t653
                              have K715 : ∀ (a o : Nat) (w : Value), T0 a = some (3, 3, o) → tm_at M0 a 0 2 w → tm_at M704 a 0 2 w := fun a o w h q => J707.keepL (I679.up h) (by decide) (K682 a o w h q)
                              have K716 : ∀ (a : Nat) (w : Value), T0 a = some (0, 6, 0) → tm_at M0 a 6 8 w → tm_at M704 a 6 8 w := fun a w h q => J707.keep (I679.up h) (by decide) (K683 a w h q)
                              have q717 := J707.keep t652 (by decide) (K681 _ 12 6 _ rfl (K675 _ 12 6 _ rfl q656))
                              have t718 := J707.up t657
                              have q719 := J707.keep t652 (by decide) (K681 _ 12 8 _ rfl (K675 _ 12 8 _ rfl q658))
                              have t720 := J707.up t659
                              have q721 := J707.keepL t659 (by decide) (K681 _ 0 2 _ rfl (K675 _ 0 2 _ rfl q660))
                              have q722 := J707.keep t652 (by decide) (K681 _ 12 12 _ rfl (K675 _ 12 12 _ rfl q662))
                              have q723 := J707.keep t653 (by decide) (K681 _ 11 4 _ rfl (K675 _ 11 4 _ rfl q663))
                              have q724 := J707.keep t653 (by decide) (K681 _ 11 1 _ rfl (K675 _ 11 1 _ rfl q664))
                              have q725 := J707.keepL t657 (by decide) (K681 _ 0 2 _ rfl (K675 _ 0 2 _ rfl q665))
                              have q726 := J707.keep t651 (by decide) (K681 _ 6 8 _ rfl (K675 _ 6 8 _ rfl q666))
                              have q727 := J707.keep t653 (by decide) (K681 _ 11 0 _ rfl (K675 _ 11 0 _ rfl q667))
                              have q728 := J707.keep t653 (by decide) (K681 _ 11 7 _ rfl (K675 _ 11 7 _ rfl q669))
                              have q729 := J707.keep t653 (by decide) (K681 _ 11 6 _ rfl q674)
                              have q730 := J707.keep t653 (by decide) q680
                              have q731 := J707.keep t653 (by decide) q701
                              rcases b711 with rfl | ⟨a710, rfl, t_a710⟩
                              · obtain ⟨_, b738, -⟩ := I708.1 _ _ t713
                                refine mv_callV (kc' := 0) (ks' := 0) (As := [.ref a72, .null]) (st9 := [.null, .ref a72, .ref o0]) d_TrustDesk_carryOut_54 lV_TrustDesk_391 b738 rfl (tc_TrustDesk_bringNear_n2 (d := (d + 4)) (x9 := x9) (o0 := o0) (o1 := a72) t713 t712 I708.start) rfl (Nat.le_of_ble_eq_true rfl) (Nat.le_of_ble_eq_true rfl) (Nat.le_of_ble_eq_true rfl) (hst := rfl) (fun b732r M733 n734 b732 => ?_)
                                obtain ⟨T735, J736, rfl⟩ := b732
                                have I737 := I708.call J736 (tm_sub (by decide)) (Or.inl rfl)
                                have t739 := J736.up t712
                                have t740 := J736.up t713
                                have t741 := J736.up t714
                                have K742 : ∀ (a o : Nat) (w : Value), T0 a = some (3, 3, o) → tm_at M0 a 0 2 w → tm_at M733 a 0 2 w := fun a o w h q => J736.keepL (I708.up h) (by decide) (K715 a o w h q)
                                have K743 : ∀ (a : Nat) (w : Value), T0 a = some (0, 6, 0) → tm_at M0 a 6 8 w → tm_at M733 a 6 8 w := fun a w h q => J736.keep (I708.up h) (by decide) (K716 a w h q)
                                have q744 := J736.keep t713 (by decide) q717
                                have t745 := J736.up t718
                                have q746 := J736.keep t713 (by decide) q719
                                have t747 := J736.up t720
                                have q748 := J736.keepL t720 (by decide) q721
                                have q749 := J736.keep t713 (by decide) q722
                                have q750 := J736.keep t714 (by decide) q723
                                have q751 := J736.keep t714 (by decide) q724
                                have q752 := J736.keepL t718 (by decide) q725
                                have q753 := J736.keep t712 (by decide) q726
                                have q754 := J736.keep t714 (by decide) q727
                                have q755 := J736.keep t714 (by decide) q728
                                have q756 := J736.keep t714 (by decide) q729
                                have q757 := J736.keep t714 (by decide) q730
                                have q758 := J736.keep t714 (by decide) q731
                                refine mv_goto (tgt := 100) d_TrustDesk_carryOut_57 (by decide) ?_
                                refine mv_vret d_TrustDesk_carryOut_100 rfl ?_
                                refine mv_iload_n d_TrustDesk_settle_63 rfl rfl ?_
                                exact mv_iret d_TrustDesk_settle_64 rfl (by first | rfl | decide) ⟨_, I737, _, rfl, Or.inl ⟨K742, K743⟩⟩
                              · obtain ⟨_, b765, -⟩ := I708.1 _ _ t713
                                refine mv_callV (kc' := 0) (ks' := 0) (As := [.ref a72, .ref a710]) (st9 := [.ref a710, .ref a72, .ref o0]) d_TrustDesk_carryOut_54 lV_TrustDesk_391 b765 rfl (tc_TrustDesk_bringNear (d := (d + 4)) (x9 := x9) (o0 := o0) (o1 := a72) (o2 := a710) t713 t712 t_a710 I708.start) rfl (Nat.le_of_ble_eq_true rfl) (Nat.le_of_ble_eq_true rfl) (Nat.le_of_ble_eq_true rfl) (hst := rfl) (fun b759r M760 n761 b759 => ?_)
                                obtain ⟨T762, J763, rfl⟩ := b759
                                have I764 := I708.call J763 (tm_sub (by decide)) (Or.inl rfl)
                                have t766 := J763.up t712
                                have t767 := J763.up t713
                                have t768 := J763.up t714
                                have K769 : ∀ (a o : Nat) (w : Value), T0 a = some (3, 3, o) → tm_at M0 a 0 2 w → tm_at M760 a 0 2 w := fun a o w h q => J763.keepL (I708.up h) (by decide) (K715 a o w h q)
                                have K770 : ∀ (a : Nat) (w : Value), T0 a = some (0, 6, 0) → tm_at M0 a 6 8 w → tm_at M760 a 6 8 w := fun a w h q => J763.keep (I708.up h) (by decide) (K716 a w h q)
                                have q771 := J763.keep t713 (by decide) q717
                                have t772 := J763.up t718
                                have q773 := J763.keep t713 (by decide) q719
                                have t774 := J763.up t720
                                have q775 := J763.keepL t720 (by decide) q721
                                have q776 := J763.keep t713 (by decide) q722
                                have q777 := J763.keep t714 (by decide) q723
                                have q778 := J763.keep t714 (by decide) q724
                                have q779 := J763.keepL t718 (by decide) q725
                                have q780 := J763.keep t712 (by decide) q726
                                have q781 := J763.keep t714 (by decide) q727
                                have q782 := J763.keep t714 (by decide) q728
                                have q783 := J763.keep t714 (by decide) q729
                                have q784 := J763.keep t714 (by decide) q730
                                have q785 := J763.keep t714 (by decide) q731
                                refine mv_goto (tgt := 100) d_TrustDesk_carryOut_57 (by decide) ?_
                                refine mv_vret d_TrustDesk_carryOut_100 rfl ?_
                                refine mv_iload_n d_TrustDesk_settle_63 rfl rfl ?_
                                exact mv_iret d_TrustDesk_settle_64 rfl (by first | rfl | decide) ⟨_, I764, _, rfl, Or.inl ⟨K769, K770⟩⟩
                          · refine mv_iconst (v := 5) d_TrustDesk_failureOf_85 (by decide) ?_
                            refine mv_goto (tgt := 90) d_TrustDesk_failureOf_86 (by decide) ?_
                            refine mv_iret d_TrustDesk_failureOf_90 rfl (by first | rfl | decide) ?_
                            refine mv_istore_n (lv' := [(3, .int 5), (2, .ref a19), (0, .ref o0), (1, .int x1)]) d_TrustDesk_settle_35 rfl (by decide) rfl ?_
                            refine mv_aload_n d_TrustDesk_settle_36 rfl rfl ?_
                            refine mv_iload_n d_TrustDesk_settle_37 rfl rfl ?_
                            refine tr_putKM tm_okF I645 t653 (k := 6) rfl ⟨_, rfl⟩ (Or.inl (by decide)) d_TrustDesk_settle_38 p_TrustDesk_318_11 rfl rfl (fun M786 I787 q788 K789 K789M => ?_)
                            have K790 : ∀ (a o : Nat) (w : Value), T0 a = some (3, 3, o) → tm_at M0 a 0 2 w → tm_at M786 a 0 2 w := fun a o w h q => K789 _ 0 2 _ rfl (K654 a o w h q)
                            have K791 : ∀ (a : Nat) (w : Value), T0 a = some (0, 6, 0) → tm_at M0 a 6 8 w → tm_at M786 a 6 8 w := fun a w h q => K789 _ 6 8 _ rfl (K655 a w h q)
                            refine mv_aload_n d_TrustDesk_settle_41 rfl rfl ?_
                            refine mv_iload_n d_TrustDesk_settle_42 rfl rfl ?_
                            refine mv_if_ne_t (tgt := 50) d_TrustDesk_settle_43 (by decide) (by decide) ?_
                            refine mv_iconst (v := 2) d_TrustDesk_settle_50 (by decide) ?_
                            refine tr_putKM tm_okF I787 t653 (k := 5) rfl ⟨_, rfl⟩ (Or.inl (by decide)) d_TrustDesk_settle_51 p_TrustDesk_284_11 rfl rfl (fun M792 I793 q794 K795 K795M => ?_)
                            have K796 : ∀ (a o : Nat) (w : Value), T0 a = some (3, 3, o) → tm_at M0 a 0 2 w → tm_at M792 a 0 2 w := fun a o w h q => K795 _ 0 2 _ rfl (K790 a o w h q)
                            have K797 : ∀ (a : Nat) (w : Value), T0 a = some (0, 6, 0) → tm_at M0 a 6 8 w → tm_at M792 a 6 8 w := fun a w h q => K795 _ 6 8 _ rfl (K791 a w h q)
                            refine mv_iload_n d_TrustDesk_settle_54 rfl rfl ?_
                            refine mv_if_ne_t (tgt := 63) d_TrustDesk_settle_55 (by decide) (by decide) ?_
                            refine mv_iload_n d_TrustDesk_settle_63 rfl rfl ?_
                            exact mv_iret d_TrustDesk_settle_64 rfl (by first | rfl | decide) ⟨_, I793, _, rfl, Or.inl ⟨K796, K797⟩⟩
                        · refine mv_iconst (v := 4) d_TrustDesk_failureOf_76 (by decide) ?_
                          refine mv_iret d_TrustDesk_failureOf_77 rfl (by first | rfl | decide) ?_
                          refine mv_istore_n (lv' := [(3, .int 4), (2, .ref a19), (0, .ref o0), (1, .int x1)]) d_TrustDesk_settle_35 rfl (by decide) rfl ?_
                          refine mv_aload_n d_TrustDesk_settle_36 rfl rfl ?_
                          refine mv_iload_n d_TrustDesk_settle_37 rfl rfl ?_
                          refine tr_putKM tm_okF I645 t653 (k := 6) rfl ⟨_, rfl⟩ (Or.inl (by decide)) d_TrustDesk_settle_38 p_TrustDesk_318_11 rfl rfl (fun M798 I799 q800 K801 K801M => ?_)
                          have K802 : ∀ (a o : Nat) (w : Value), T0 a = some (3, 3, o) → tm_at M0 a 0 2 w → tm_at M798 a 0 2 w := fun a o w h q => K801 _ 0 2 _ rfl (K654 a o w h q)
                          have K803 : ∀ (a : Nat) (w : Value), T0 a = some (0, 6, 0) → tm_at M0 a 6 8 w → tm_at M798 a 6 8 w := fun a w h q => K801 _ 6 8 _ rfl (K655 a w h q)
                          refine mv_aload_n d_TrustDesk_settle_41 rfl rfl ?_
                          refine mv_iload_n d_TrustDesk_settle_42 rfl rfl ?_
                          refine mv_if_ne_t (tgt := 50) d_TrustDesk_settle_43 (by decide) (by decide) ?_
                          refine mv_iconst (v := 2) d_TrustDesk_settle_50 (by decide) ?_
                          refine tr_putKM tm_okF I799 t653 (k := 5) rfl ⟨_, rfl⟩ (Or.inl (by decide)) d_TrustDesk_settle_51 p_TrustDesk_284_11 rfl rfl (fun M804 I805 q806 K807 K807M => ?_)
                          have K808 : ∀ (a o : Nat) (w : Value), T0 a = some (3, 3, o) → tm_at M0 a 0 2 w → tm_at M804 a 0 2 w := fun a o w h q => K807 _ 0 2 _ rfl (K802 a o w h q)
                          have K809 : ∀ (a : Nat) (w : Value), T0 a = some (0, 6, 0) → tm_at M0 a 6 8 w → tm_at M804 a 6 8 w := fun a w h q => K807 _ 6 8 _ rfl (K803 a w h q)
                          refine mv_iload_n d_TrustDesk_settle_54 rfl rfl ?_
                          refine mv_if_ne_t (tgt := 63) d_TrustDesk_settle_55 (by decide) (by decide) ?_
                          refine mv_iload_n d_TrustDesk_settle_63 rfl rfl ?_
                          exact mv_iret d_TrustDesk_settle_64 rfl (by first | rfl | decide) ⟨_, I805, _, rfl, Or.inl ⟨K808, K809⟩⟩
                      · refine mv_iconst (v := 3) d_TrustDesk_failureOf_65 (by decide) ?_
                        refine mv_iret d_TrustDesk_failureOf_66 rfl (by first | rfl | decide) ?_
                        refine mv_istore_n (lv' := [(3, .int 3), (2, .ref a19), (0, .ref o0), (1, .int x1)]) d_TrustDesk_settle_35 rfl (by decide) rfl ?_
                        refine mv_aload_n d_TrustDesk_settle_36 rfl rfl ?_
                        refine mv_iload_n d_TrustDesk_settle_37 rfl rfl ?_
                        refine tr_putKM tm_okF I618 t624 (k := 6) rfl ⟨_, rfl⟩ (Or.inl (by decide)) d_TrustDesk_settle_38 p_TrustDesk_318_11 rfl rfl (fun M810 I811 q812 K813 K813M => ?_)
                        have K814 : ∀ (a o : Nat) (w : Value), T0 a = some (3, 3, o) → tm_at M0 a 0 2 w → tm_at M810 a 0 2 w := fun a o w h q => K813 _ 0 2 _ rfl (K625 a o w h q)
                        have K815 : ∀ (a : Nat) (w : Value), T0 a = some (0, 6, 0) → tm_at M0 a 6 8 w → tm_at M810 a 6 8 w := fun a w h q => K813 _ 6 8 _ rfl (K626 a w h q)
                        refine mv_aload_n d_TrustDesk_settle_41 rfl rfl ?_
                        refine mv_iload_n d_TrustDesk_settle_42 rfl rfl ?_
                        refine mv_if_ne_t (tgt := 50) d_TrustDesk_settle_43 (by decide) (by decide) ?_
                        refine mv_iconst (v := 2) d_TrustDesk_settle_50 (by decide) ?_
                        refine tr_putKM tm_okF I811 t624 (k := 5) rfl ⟨_, rfl⟩ (Or.inl (by decide)) d_TrustDesk_settle_51 p_TrustDesk_284_11 rfl rfl (fun M816 I817 q818 K819 K819M => ?_)
                        have K820 : ∀ (a o : Nat) (w : Value), T0 a = some (3, 3, o) → tm_at M0 a 0 2 w → tm_at M816 a 0 2 w := fun a o w h q => K819 _ 0 2 _ rfl (K814 a o w h q)
                        have K821 : ∀ (a : Nat) (w : Value), T0 a = some (0, 6, 0) → tm_at M0 a 6 8 w → tm_at M816 a 6 8 w := fun a w h q => K819 _ 6 8 _ rfl (K815 a w h q)
                        refine mv_iload_n d_TrustDesk_settle_54 rfl rfl ?_
                        refine mv_if_ne_t (tgt := 63) d_TrustDesk_settle_55 (by decide) (by decide) ?_
                        refine mv_iload_n d_TrustDesk_settle_63 rfl rfl ?_
                        exact mv_iret d_TrustDesk_settle_64 rfl (by first | rfl | decide) ⟨_, I817, _, rfl, Or.inl ⟨K820, K821⟩⟩
                    · refine mv_iconst (v := 2) d_TrustDesk_failureOf_46 (by decide) ?_
                      refine mv_iret d_TrustDesk_failureOf_47 rfl (by first | rfl | decide) ?_
                      refine mv_istore_n (lv' := [(3, .int 2), (2, .ref a19), (0, .ref o0), (1, .int x1)]) d_TrustDesk_settle_35 rfl (by decide) rfl ?_
                      refine mv_aload_n d_TrustDesk_settle_36 rfl rfl ?_
                      refine mv_iload_n d_TrustDesk_settle_37 rfl rfl ?_
                      refine tr_putKM tm_okF I538 t546 (k := 6) rfl ⟨_, rfl⟩ (Or.inl (by decide)) d_TrustDesk_settle_38 p_TrustDesk_318_11 rfl rfl (fun M822 I823 q824 K825 K825M => ?_)
                      have K826 : ∀ (a o : Nat) (w : Value), T0 a = some (3, 3, o) → tm_at M0 a 0 2 w → tm_at M822 a 0 2 w := fun a o w h q => K825 _ 0 2 _ rfl (K547 a o w h q)
                      have K827 : ∀ (a : Nat) (w : Value), T0 a = some (0, 6, 0) → tm_at M0 a 6 8 w → tm_at M822 a 6 8 w := fun a w h q => K825 _ 6 8 _ rfl (K548 a w h q)
                      refine mv_aload_n d_TrustDesk_settle_41 rfl rfl ?_
                      refine mv_iload_n d_TrustDesk_settle_42 rfl rfl ?_
                      refine mv_if_ne_t (tgt := 50) d_TrustDesk_settle_43 (by decide) (by decide) ?_
                      refine mv_iconst (v := 2) d_TrustDesk_settle_50 (by decide) ?_
                      refine tr_putKM tm_okF I823 t546 (k := 5) rfl ⟨_, rfl⟩ (Or.inl (by decide)) d_TrustDesk_settle_51 p_TrustDesk_284_11 rfl rfl (fun M828 I829 q830 K831 K831M => ?_)
                      have K832 : ∀ (a o : Nat) (w : Value), T0 a = some (3, 3, o) → tm_at M0 a 0 2 w → tm_at M828 a 0 2 w := fun a o w h q => K831 _ 0 2 _ rfl (K826 a o w h q)
                      have K833 : ∀ (a : Nat) (w : Value), T0 a = some (0, 6, 0) → tm_at M0 a 6 8 w → tm_at M828 a 6 8 w := fun a w h q => K831 _ 6 8 _ rfl (K827 a w h q)
                      refine mv_iload_n d_TrustDesk_settle_54 rfl rfl ?_
                      refine mv_if_ne_t (tgt := 63) d_TrustDesk_settle_55 (by decide) (by decide) ?_
                      refine mv_iload_n d_TrustDesk_settle_63 rfl rfl ?_
                      exact mv_iret d_TrustDesk_settle_64 rfl (by first | rfl | decide) ⟨_, I829, _, rfl, Or.inl ⟨K832, K833⟩⟩
                · refine mv_tableIn (tgt := 53) (off := 40) d_TrustDesk_canBe_13 (by omega) (by omega) (by rw [b83]; rfl) (by decide) ?_
                  refine mv_aload_n d_TrustDesk_canBe_53 rfl rfl ?_
                  refine mv_aload_n d_TrustDesk_canBe_54 rfl rfl ?_
                  refine mv_aload_n d_TrustDesk_canBe_55 rfl rfl ?_
                  refine mv_aload_n d_TrustDesk_canBe_56 rfl rfl ?_
                  obtain ⟨v835, q834⟩ := tm_atI I0 t_a19 (k := 2) rfl
                  refine tr_getK q834 d_TrustDesk_canBe_57 f_TrustDesk_311_11 ?_
                  obtain ⟨_, b836, -⟩ := I0.1 _ _ h_o0
                  refine mv_callV (kc1 := 0) (ks1 := 0) (kc' := 0) (ks' := 0) (As := [.int v835]) (st9 := [.int v835, .ref o0, .ref a72, .ref o0]) d_TrustDesk_canBe_60 lV_TrustDesk_257 b836 rfl (mj_enter (by decide) (Nat.le_of_ble_eq_true rfl) ?_) rfl (Nat.le_of_ble_eq_true rfl) (Nat.le_of_ble_eq_true rfl) (Nat.le_of_ble_eq_true rfl) (hst := rfl) (fun _ _ _ h => h)
                  refine mv_iload_n d_TrustDesk_fundAt_0 rfl rfl ?_
                  have := mz_hi v835
                  refine mv_if_ltZ (tgt := 29) (a := v835.toInt) d_TrustDesk_fundAt_1 (by decide) rfl (fun b837 => ?_) (fun b837 => ?_)
                  · refine mv_null d_TrustDesk_fundAt_29 ?_
                    refine mv_aret (r := none) d_TrustDesk_fundAt_30 rfl (by first | exact Or.inl ⟨_, rfl⟩ | exact Or.inr ⟨_, rfl⟩) ?_
                    obtain ⟨_, b838, -⟩ := I0.1 _ _ h_o0
                    refine mv_callV (kc1 := 0) (ks1 := 0) (kc' := 0) (ks' := 0) (As := [.ref a72, .null]) (st9 := [.null, .ref a72, .ref o0]) d_TrustDesk_canBe_63 lV_TrustDesk_352 b838 rfl (mj_enter (by decide) (Nat.le_of_ble_eq_true rfl) ?_) rfl (Nat.le_of_ble_eq_true rfl) (Nat.le_of_ble_eq_true rfl) (Nat.le_of_ble_eq_true rfl) (hst := rfl) (fun _ _ _ h => h)
                    refine mv_aload_nN d_TrustDesk_canJoin_0 rfl rfl ?_
                    refine mv_ifnullN (tgt := 16) d_TrustDesk_canJoin_1 (by decide) ?_
                    refine mv_iconst (v := 0) d_TrustDesk_canJoin_16 (by decide) ?_
                    refine mv_iret d_TrustDesk_canJoin_17 rfl (by decide) ?_
                    refine mv_iret d_TrustDesk_canBe_66 rfl (by decide) ?_
                    refine mv_if_ne_f (tgt := 24) d_TrustDesk_failureOf_19 (by decide) (by decide) ?_
                    refine mv_iconst (v := 1) d_TrustDesk_failureOf_22 (by decide) ?_
                    refine mv_iret d_TrustDesk_failureOf_23 rfl (by first | rfl | decide) ?_
                    refine mv_istore_n (lv' := [(3, .int 1), (2, .ref a19), (0, .ref o0), (1, .int x1)]) d_TrustDesk_settle_35 rfl (by decide) rfl ?_
                    refine mv_aload_n d_TrustDesk_settle_36 rfl rfl ?_
                    refine mv_iload_n d_TrustDesk_settle_37 rfl rfl ?_
                    refine tr_putKM tm_okF I0 t_a19 (k := 6) rfl ⟨_, rfl⟩ (Or.inl (by decide)) d_TrustDesk_settle_38 p_TrustDesk_318_11 rfl rfl (fun M839 I840 q841 K842 K842M => ?_)
                    have K843 : ∀ (a o : Nat) (w : Value), T0 a = some (3, 3, o) → tm_at M0 a 0 2 w → tm_at M839 a 0 2 w := fun a o w h q => K842 _ 0 2 _ rfl (K0L a o w h q)
                    have K844 : ∀ (a : Nat) (w : Value), T0 a = some (0, 6, 0) → tm_at M0 a 6 8 w → tm_at M839 a 6 8 w := fun a w h q => K842 _ 6 8 _ rfl (K0J a w h q)
                    refine mv_aload_n d_TrustDesk_settle_41 rfl rfl ?_
                    refine mv_iload_n d_TrustDesk_settle_42 rfl rfl ?_
                    refine mv_if_ne_t (tgt := 50) d_TrustDesk_settle_43 (by decide) (by decide) ?_
                    refine mv_iconst (v := 2) d_TrustDesk_settle_50 (by decide) ?_
                    refine tr_putKM tm_okF I840 t_a19 (k := 5) rfl ⟨_, rfl⟩ (Or.inl (by decide)) d_TrustDesk_settle_51 p_TrustDesk_284_11 rfl rfl (fun M845 I846 q847 K848 K848M => ?_)
                    have K849 : ∀ (a o : Nat) (w : Value), T0 a = some (3, 3, o) → tm_at M0 a 0 2 w → tm_at M845 a 0 2 w := fun a o w h q => K848 _ 0 2 _ rfl (K843 a o w h q)
                    have K850 : ∀ (a : Nat) (w : Value), T0 a = some (0, 6, 0) → tm_at M0 a 6 8 w → tm_at M845 a 6 8 w := fun a w h q => K848 _ 6 8 _ rfl (K844 a w h q)
                    refine mv_iload_n d_TrustDesk_settle_54 rfl rfl ?_
                    refine mv_if_ne_t (tgt := 63) d_TrustDesk_settle_55 (by decide) (by decide) ?_
                    refine mv_iload_n d_TrustDesk_settle_63 rfl rfl ?_
                    exact mv_iret d_TrustDesk_settle_64 rfl (by first | rfl | decide) ⟨_, I846, _, rfl, Or.inl ⟨K849, K850⟩⟩
                  · refine mv_iload_n d_TrustDesk_fundAt_4 rfl rfl ?_
                    refine mv_aload_n d_TrustDesk_fundAt_5 rfl rfl ?_
                    refine tr_getK (k := 6) q_Lf d_TrustDesk_fundAt_6 f_TrustDesk_53_12 ?_
                    obtain ⟨m852, e853, N854, f855, h851⟩ := tm_lsn I0 h_Lf q52
                    refine mv_callV_s (kc' := 0) (ks' := 0) [] [.ref Lf, .int v835] d_TrustDesk_fundAt_9 lV_TrustDesk_97 h851.1 rfl (tc_L_size (d := (d + 6)) h851.1) rfl (Nat.le_of_ble_eq_true rfl) (Nat.le_of_ble_eq_true rfl) (Nat.le_of_ble_eq_true rfl) rfl ?_
                    have := mz_hi v835
                    have := mz_hi n51
                    refine mv_icmp_geZ (tgt := 29) (a := v835.toInt) (b := n51.toInt) d_TrustDesk_fundAt_12 (by decide) rfl rfl (fun b856 => ?_) (fun b856 => ?_)
                    · refine mv_null d_TrustDesk_fundAt_29 ?_
                      refine mv_aret (r := none) d_TrustDesk_fundAt_30 rfl (by first | exact Or.inl ⟨_, rfl⟩ | exact Or.inr ⟨_, rfl⟩) ?_
                      obtain ⟨_, b857, -⟩ := I0.1 _ _ h_o0
                      refine mv_callV (kc1 := 0) (ks1 := 0) (kc' := 0) (ks' := 0) (As := [.ref a72, .null]) (st9 := [.null, .ref a72, .ref o0]) d_TrustDesk_canBe_63 lV_TrustDesk_352 b857 rfl (mj_enter (by decide) (Nat.le_of_ble_eq_true rfl) ?_) rfl (Nat.le_of_ble_eq_true rfl) (Nat.le_of_ble_eq_true rfl) (Nat.le_of_ble_eq_true rfl) (hst := rfl) (fun _ _ _ h => h)
                      refine mv_aload_nN d_TrustDesk_canJoin_0 rfl rfl ?_
                      refine mv_ifnullN (tgt := 16) d_TrustDesk_canJoin_1 (by decide) ?_
                      refine mv_iconst (v := 0) d_TrustDesk_canJoin_16 (by decide) ?_
                      refine mv_iret d_TrustDesk_canJoin_17 rfl (by decide) ?_
                      refine mv_iret d_TrustDesk_canBe_66 rfl (by decide) ?_
                      refine mv_if_ne_f (tgt := 24) d_TrustDesk_failureOf_19 (by decide) (by decide) ?_
                      refine mv_iconst (v := 1) d_TrustDesk_failureOf_22 (by decide) ?_
                      refine mv_iret d_TrustDesk_failureOf_23 rfl (by first | rfl | decide) ?_
                      refine mv_istore_n (lv' := [(3, .int 1), (2, .ref a19), (0, .ref o0), (1, .int x1)]) d_TrustDesk_settle_35 rfl (by decide) rfl ?_
                      refine mv_aload_n d_TrustDesk_settle_36 rfl rfl ?_
                      refine mv_iload_n d_TrustDesk_settle_37 rfl rfl ?_
                      refine tr_putKM tm_okF I0 t_a19 (k := 6) rfl ⟨_, rfl⟩ (Or.inl (by decide)) d_TrustDesk_settle_38 p_TrustDesk_318_11 rfl rfl (fun M858 I859 q860 K861 K861M => ?_)
                      have K862 : ∀ (a o : Nat) (w : Value), T0 a = some (3, 3, o) → tm_at M0 a 0 2 w → tm_at M858 a 0 2 w := fun a o w h q => K861 _ 0 2 _ rfl (K0L a o w h q)
                      have K863 : ∀ (a : Nat) (w : Value), T0 a = some (0, 6, 0) → tm_at M0 a 6 8 w → tm_at M858 a 6 8 w := fun a w h q => K861 _ 6 8 _ rfl (K0J a w h q)
                      refine mv_aload_n d_TrustDesk_settle_41 rfl rfl ?_
                      refine mv_iload_n d_TrustDesk_settle_42 rfl rfl ?_
                      refine mv_if_ne_t (tgt := 50) d_TrustDesk_settle_43 (by decide) (by decide) ?_
                      refine mv_iconst (v := 2) d_TrustDesk_settle_50 (by decide) ?_
                      refine tr_putKM tm_okF I859 t_a19 (k := 5) rfl ⟨_, rfl⟩ (Or.inl (by decide)) d_TrustDesk_settle_51 p_TrustDesk_284_11 rfl rfl (fun M864 I865 q866 K867 K867M => ?_)
                      have K868 : ∀ (a o : Nat) (w : Value), T0 a = some (3, 3, o) → tm_at M0 a 0 2 w → tm_at M864 a 0 2 w := fun a o w h q => K867 _ 0 2 _ rfl (K862 a o w h q)
                      have K869 : ∀ (a : Nat) (w : Value), T0 a = some (0, 6, 0) → tm_at M0 a 6 8 w → tm_at M864 a 6 8 w := fun a w h q => K867 _ 6 8 _ rfl (K863 a w h q)
                      refine mv_iload_n d_TrustDesk_settle_54 rfl rfl ?_
                      refine mv_if_ne_t (tgt := 63) d_TrustDesk_settle_55 (by decide) (by decide) ?_
                      refine mv_iload_n d_TrustDesk_settle_63 rfl rfl ?_
                      exact mv_iret d_TrustDesk_settle_64 rfl (by first | rfl | decide) ⟨_, I865, _, rfl, Or.inl ⟨K868, K869⟩⟩
                    · refine mv_aload_n d_TrustDesk_fundAt_15 rfl rfl ?_
                      refine tr_getK (k := 6) q_Lf d_TrustDesk_fundAt_16 f_TrustDesk_53_12 ?_
                      refine mv_iload_n d_TrustDesk_fundAt_19 rfl rfl ?_
                      obtain ⟨m871, e872, N873, f874, h870⟩ := tm_lsn I0 h_Lf q52
                      have u875e := (tm_el (i := v835) h870 (by omega) (by omega)).1
                      have u875i := (tm_el (i := v835) h870 (by omega) (by omega)).2.1
                      obtain ⟨a876, u875f, u875t⟩ := (tm_el (i := v835) h870 (by omega) (by omega)).2.2
                      have g877 := tm_ge.of h870 (by rw [mz_nat9 (by omega)]; omega) u875f
                      have t_z878 : T0 a876 = some (0, 6, 0) := u875t
                      refine mv_callV_s (kc' := 0) (ks' := 0) [.int v835] [.int v835, .ref Lf] d_TrustDesk_fundAt_20 lV_TrustDesk_158 h870.1 rfl (tc_L_get (d := (d + 4)) h870.1 u875e (by omega) (by omega) u875i u875f) rfl (Nat.le_of_ble_eq_true rfl) (Nat.le_of_ble_eq_true rfl) (Nat.le_of_ble_eq_true rfl) rfl ?_
                      obtain ⟨_, b879, -⟩ := I0.1 _ _ t_z878
                      refine mv_castS (T9 := kF_Fund) (N := 15) d_TrustDesk_fundAt_23 (mj_in1 (List.mem_of_getElem? (i := 655) (by decide +kernel)) rfl) b879 rfl ?_
                      refine mv_goto (tgt := 30) d_TrustDesk_fundAt_26 (by decide) ?_
                      refine mv_aret (r := (some a876)) d_TrustDesk_fundAt_30 rfl (by first | exact Or.inl ⟨_, rfl⟩ | exact Or.inr ⟨_, rfl⟩) ?_
                      obtain ⟨_, b880, -⟩ := I0.1 _ _ h_o0
                      refine mv_callV (kc1 := 0) (ks1 := 0) (kc' := 0) (ks' := 0) (As := [.ref a72, .ref a876]) (st9 := [.ref a876, .ref a72, .ref o0]) d_TrustDesk_canBe_63 lV_TrustDesk_352 b880 rfl (mj_enter (by decide) (Nat.le_of_ble_eq_true rfl) ?_) rfl (Nat.le_of_ble_eq_true rfl) (Nat.le_of_ble_eq_true rfl) (Nat.le_of_ble_eq_true rfl) (hst := rfl) (fun _ _ _ h => h)
                      refine mv_aload_n d_TrustDesk_canJoin_0 rfl rfl ?_
                      refine mv_ifnull d_TrustDesk_canJoin_1 ?_
                      refine mv_aload_n d_TrustDesk_canJoin_4 rfl rfl ?_
                      refine mv_aload_n d_TrustDesk_canJoin_5 rfl rfl ?_
                      refine mv_acmp_eqR (tgt := 16) d_TrustDesk_canJoin_6 (by decide) (I0.2.1 _ _ t_z878).1 (I0.2.1 _ _ t_z74).1 (fun b881 => ?_) (fun b881 => ?_)
                      · refine mv_iconst (v := 0) d_TrustDesk_canJoin_16 (by decide) ?_
                        refine mv_iret d_TrustDesk_canJoin_17 rfl (by decide) ?_
                        refine mv_iret d_TrustDesk_canBe_66 rfl (by decide) ?_
                        refine mv_if_ne_f (tgt := 24) d_TrustDesk_failureOf_19 (by decide) (by decide) ?_
                        refine mv_iconst (v := 1) d_TrustDesk_failureOf_22 (by decide) ?_
                        refine mv_iret d_TrustDesk_failureOf_23 rfl (by first | rfl | decide) ?_
                        refine mv_istore_n (lv' := [(3, .int 1), (2, .ref a19), (0, .ref o0), (1, .int x1)]) d_TrustDesk_settle_35 rfl (by decide) rfl ?_
                        refine mv_aload_n d_TrustDesk_settle_36 rfl rfl ?_
                        refine mv_iload_n d_TrustDesk_settle_37 rfl rfl ?_
                        refine tr_putKM tm_okF I0 t_a19 (k := 6) rfl ⟨_, rfl⟩ (Or.inl (by decide)) d_TrustDesk_settle_38 p_TrustDesk_318_11 rfl rfl (fun M882 I883 q884 K885 K885M => ?_)
                        have K886 : ∀ (a o : Nat) (w : Value), T0 a = some (3, 3, o) → tm_at M0 a 0 2 w → tm_at M882 a 0 2 w := fun a o w h q => K885 _ 0 2 _ rfl (K0L a o w h q)
                        have K887 : ∀ (a : Nat) (w : Value), T0 a = some (0, 6, 0) → tm_at M0 a 6 8 w → tm_at M882 a 6 8 w := fun a w h q => K885 _ 6 8 _ rfl (K0J a w h q)
                        refine mv_aload_n d_TrustDesk_settle_41 rfl rfl ?_
                        refine mv_iload_n d_TrustDesk_settle_42 rfl rfl ?_
                        refine mv_if_ne_t (tgt := 50) d_TrustDesk_settle_43 (by decide) (by decide) ?_
                        refine mv_iconst (v := 2) d_TrustDesk_settle_50 (by decide) ?_
                        refine tr_putKM tm_okF I883 t_a19 (k := 5) rfl ⟨_, rfl⟩ (Or.inl (by decide)) d_TrustDesk_settle_51 p_TrustDesk_284_11 rfl rfl (fun M888 I889 q890 K891 K891M => ?_)
                        have K892 : ∀ (a o : Nat) (w : Value), T0 a = some (3, 3, o) → tm_at M0 a 0 2 w → tm_at M888 a 0 2 w := fun a o w h q => K891 _ 0 2 _ rfl (K886 a o w h q)
                        have K893 : ∀ (a : Nat) (w : Value), T0 a = some (0, 6, 0) → tm_at M0 a 6 8 w → tm_at M888 a 6 8 w := fun a w h q => K891 _ 6 8 _ rfl (K887 a w h q)
                        refine mv_iload_n d_TrustDesk_settle_54 rfl rfl ?_
                        refine mv_if_ne_t (tgt := 63) d_TrustDesk_settle_55 (by decide) (by decide) ?_
                        refine mv_iload_n d_TrustDesk_settle_63 rfl rfl ?_
                        exact mv_iret d_TrustDesk_settle_64 rfl (by first | rfl | decide) ⟨_, I889, _, rfl, Or.inl ⟨K892, K893⟩⟩
                      · refine mv_aload_n d_TrustDesk_canJoin_9 rfl rfl ?_
                        obtain ⟨_, b894, -⟩ := I0.1 _ _ t_z878
                        refine mv_callV (kc1 := 0) (ks1 := 0) (kc' := 0) (ks' := 0) (As := []) (st9 := [.ref a876]) d_TrustDesk_canJoin_10 lV_TrustDesk_162 b894 rfl (mj_enter (by decide) (Nat.le_of_ble_eq_true rfl) ?_) rfl (Nat.le_of_ble_eq_true rfl) (Nat.le_of_ble_eq_true rfl) (Nat.le_of_ble_eq_true rfl) (hst := rfl) (fun _ _ _ h => h)
                        refine mv_aload_n d_Fund_isJoined_0 rfl rfl ?_
                        obtain ⟨v896, q895⟩ := tm_atI I0 t_z878 (k := 8) rfl
                        refine tr_getK q895 d_Fund_isJoined_1 f_Fund_18_6 ?_
                        refine mv_iconst (v := (-1)) d_Fund_isJoined_4 (by decide) ?_
                        have := mz_hi v896
                        refine mv_icmp_eqZ (tgt := 12) (a := v896.toInt) (b := (-1)) d_Fund_isJoined_5 (by decide) rfl (by decide) (fun b897 => ?_) (fun b897 => ?_)
                        · refine mv_iconst (v := 0) d_Fund_isJoined_12 (by decide) ?_
                          refine mv_iret d_Fund_isJoined_13 rfl (by decide) ?_
                          refine mv_if_eq_t (tgt := 18) d_TrustDesk_canJoin_13 (by decide) (by decide) ?_
                          refine mv_aload_n d_TrustDesk_canJoin_18 rfl rfl ?_
                          obtain ⟨_, b904, -⟩ := I0.1 _ _ t_z74
                          refine mv_callV (kc' := 0) (ks' := 0) (As := []) (st9 := [.ref a72]) d_TrustDesk_canJoin_19 lV_TrustDesk_363 b904 rfl (tc_Fund_endsThatStand (d := (d + 2)) (x9 := x9) (o0 := a72) t_z74 I0.start) rfl (Nat.le_of_ble_eq_true rfl) (Nat.le_of_ble_eq_true rfl) (Nat.le_of_ble_eq_true rfl) (hst := rfl) (fun b898r M899 n900 b898 => ?_)
                          obtain ⟨T901, J902, v905, rfl⟩ := b898
                          have I903 := I0.call J902 (tm_sub (by decide)) (Or.inl rfl)
                          have t906 := J902.up h_o0
                          have t907 := J902.up t_z74
                          have t908 := J902.up t_z878
                          have t909 := J902.up t_a19
                          have K910 : ∀ (a o : Nat) (w : Value), T0 a = some (3, 3, o) → tm_at M0 a 0 2 w → tm_at M899 a 0 2 w := fun a o w h q => J902.keepL (I0.up h) (by decide) (K0L a o w h q)
                          have K911 : ∀ (a : Nat) (w : Value), T0 a = some (0, 6, 0) → tm_at M0 a 6 8 w → tm_at M899 a 6 8 w := fun a w h q => J902.keep (I0.up h) (by decide) (K0J a w h q)
                          have q912 := J902.keep h_o0 (by decide) q_Lf
                          have t913 := J902.up h_Lf
                          have q914 := J902.keep h_o0 (by decide) q3
                          have t915 := J902.up t_a4
                          have q916 := J902.keepL t_a4 (by decide) q11
                          have q917 := J902.keep t_a19 (by decide) q21
                          have q918 := J902.keep h_o0 (by decide) q24
                          have q919 := J902.keep t_a19 (by decide) q26
                          have q920 := J902.keep t_a19 (by decide) q30
                          have q921 := J902.keepL h_Lf (by decide) q52
                          have q922 := J902.keep t_z74 (by decide) q78
                          have q923 := J902.keep t_a19 (by decide) q81
                          have q924 := J902.keep t_a19 (by decide) q834
                          have q925 := J902.keep t_z878 (by decide) q895
                          refine mv_aload_n d_TrustDesk_canJoin_22 rfl rfl ?_
                          obtain ⟨_, b932, -⟩ := I903.1 _ _ t908
                          refine mv_callV (kc' := 0) (ks' := 0) (As := []) (st9 := [.ref a876, .int v905]) d_TrustDesk_canJoin_23 lV_TrustDesk_363 b932 rfl (tc_Fund_endsThatStand (d := (d + 2)) (x9 := x9) (o0 := a876) t908 I903.start) rfl (Nat.le_of_ble_eq_true rfl) (Nat.le_of_ble_eq_true rfl) (Nat.le_of_ble_eq_true rfl) (hst := rfl) (fun b926r M927 n928 b926 => ?_)
                          obtain ⟨T929, J930, v933, rfl⟩ := b926
                          have I931 := I903.call J930 (tm_sub (by decide)) (Or.inl rfl)
                          have t934 := J930.up t906
                          have t935 := J930.up t907
                          have t936 := J930.up t908
                          have t937 := J930.up t909
                          have K938 : ∀ (a o : Nat) (w : Value), T0 a = some (3, 3, o) → tm_at M0 a 0 2 w → tm_at M927 a 0 2 w := fun a o w h q => J930.keepL (I903.up h) (by decide) (K910 a o w h q)
                          have K939 : ∀ (a : Nat) (w : Value), T0 a = some (0, 6, 0) → tm_at M0 a 6 8 w → tm_at M927 a 6 8 w := fun a w h q => J930.keep (I903.up h) (by decide) (K911 a w h q)
                          have q940 := J930.keep t906 (by decide) q912
                          have t941 := J930.up t913
                          have q942 := J930.keep t906 (by decide) q914
                          have t943 := J930.up t915
                          have q944 := J930.keepL t915 (by decide) q916
                          have q945 := J930.keep t909 (by decide) q917
                          have q946 := J930.keep t906 (by decide) q918
                          have q947 := J930.keep t909 (by decide) q919
                          have q948 := J930.keep t909 (by decide) q920
                          have q949 := J930.keepL t913 (by decide) q921
                          have q950 := J930.keep t907 (by decide) q922
                          have q951 := J930.keep t909 (by decide) q923
                          have q952 := J930.keep t909 (by decide) q924
                          have q953 := J930.keep t908 (by decide) q925
                          refine mv_iadd d_TrustDesk_canJoin_26 ?_
                          refine mv_bipush (v := 12) d_TrustDesk_canJoin_27 (by decide) ?_
                          have := mz_hi (v905 + v933)
                          refine mv_icmp_gtZ (tgt := 36) (a := (v905 + v933).toInt) (b := 12) d_TrustDesk_canJoin_29 (by decide) rfl (by decide) (fun b954 => ?_) (fun b954 => ?_)
                          · refine mv_iconst (v := 0) d_TrustDesk_canJoin_36 (by decide) ?_
                            refine mv_iret d_TrustDesk_canJoin_37 rfl (by decide) ?_
                            refine mv_iret d_TrustDesk_canBe_66 rfl (by decide) ?_
                            refine mv_if_ne_f (tgt := 24) d_TrustDesk_failureOf_19 (by decide) (by decide) ?_
                            refine mv_iconst (v := 1) d_TrustDesk_failureOf_22 (by decide) ?_
                            refine mv_iret d_TrustDesk_failureOf_23 rfl (by first | rfl | decide) ?_
                            refine mv_istore_n (lv' := [(3, .int 1), (2, .ref a19), (0, .ref o0), (1, .int x1)]) d_TrustDesk_settle_35 rfl (by decide) rfl ?_
                            refine mv_aload_n d_TrustDesk_settle_36 rfl rfl ?_
                            refine mv_iload_n d_TrustDesk_settle_37 rfl rfl ?_
                            refine tr_putKM tm_okF I931 t937 (k := 6) rfl ⟨_, rfl⟩ (Or.inl (by decide)) d_TrustDesk_settle_38 p_TrustDesk_318_11 rfl rfl (fun M955 I956 q957 K958 K958M => ?_)
                            have K959 : ∀ (a o : Nat) (w : Value), T0 a = some (3, 3, o) → tm_at M0 a 0 2 w → tm_at M955 a 0 2 w := fun a o w h q => K958 _ 0 2 _ rfl (K938 a o w h q)
                            have K960 : ∀ (a : Nat) (w : Value), T0 a = some (0, 6, 0) → tm_at M0 a 6 8 w → tm_at M955 a 6 8 w := fun a w h q => K958 _ 6 8 _ rfl (K939 a w h q)
                            refine mv_aload_n d_TrustDesk_settle_41 rfl rfl ?_
                            refine mv_iload_n d_TrustDesk_settle_42 rfl rfl ?_
                            refine mv_if_ne_t (tgt := 50) d_TrustDesk_settle_43 (by decide) (by decide) ?_
                            refine mv_iconst (v := 2) d_TrustDesk_settle_50 (by decide) ?_
                            refine tr_putKM tm_okF I956 t937 (k := 5) rfl ⟨_, rfl⟩ (Or.inl (by decide)) d_TrustDesk_settle_51 p_TrustDesk_284_11 rfl rfl (fun M961 I962 q963 K964 K964M => ?_)
                            have K965 : ∀ (a o : Nat) (w : Value), T0 a = some (3, 3, o) → tm_at M0 a 0 2 w → tm_at M961 a 0 2 w := fun a o w h q => K964 _ 0 2 _ rfl (K959 a o w h q)
                            have K966 : ∀ (a : Nat) (w : Value), T0 a = some (0, 6, 0) → tm_at M0 a 6 8 w → tm_at M961 a 6 8 w := fun a w h q => K964 _ 6 8 _ rfl (K960 a w h q)
                            refine mv_iload_n d_TrustDesk_settle_54 rfl rfl ?_
                            refine mv_if_ne_t (tgt := 63) d_TrustDesk_settle_55 (by decide) (by decide) ?_
                            refine mv_iload_n d_TrustDesk_settle_63 rfl rfl ?_
                            exact mv_iret d_TrustDesk_settle_64 rfl (by first | rfl | decide) ⟨_, I962, _, rfl, Or.inl ⟨K965, K966⟩⟩
                          · refine mv_iconst (v := 1) d_TrustDesk_canJoin_32 (by decide) ?_
                            refine mv_goto (tgt := 37) d_TrustDesk_canJoin_33 (by decide) ?_
                            refine mv_iret d_TrustDesk_canJoin_37 rfl (by decide) ?_
                            refine mv_iret d_TrustDesk_canBe_66 rfl (by decide) ?_
                            refine mv_if_ne_t (tgt := 24) d_TrustDesk_failureOf_19 (by decide) (by decide) ?_
                            refine mv_aload_n d_TrustDesk_failureOf_24 rfl rfl ?_
                            refine mv_aload_n d_TrustDesk_failureOf_25 rfl rfl ?_
                            refine tr_getK (k := 12) q946 d_TrustDesk_failureOf_26 f_TrustDesk_73_12 ?_
                            obtain ⟨_, b973, -⟩ := I931.1 _ _ t934
                            refine mv_callV (kc' := 0) (ks' := 0) (As := [.int v25]) (st9 := [.int v25, .ref o0]) d_TrustDesk_failureOf_29 lV_TrustDesk_114 b973 rfl (tc_TrustDesk_inForce (d := (d + 5)) (x9 := x9) (o0 := o0) (x1 := v25) t934 I931.start) rfl (Nat.le_of_ble_eq_true rfl) (Nat.le_of_ble_eq_true rfl) (Nat.le_of_ble_eq_true rfl) (hst := rfl) (fun b967r M968 n969 b967 => ?_)
                            obtain ⟨T970, J971, a974, rfl, t_a974⟩ := b967
                            have I972 := I931.call J971 (tm_sub (by decide)) (Or.inl rfl)
                            have t975 := J971.up t935
                            have t976 := J971.up t934
                            have t977 := J971.up t937
                            have K978 : ∀ (a o : Nat) (w : Value), T0 a = some (3, 3, o) → tm_at M0 a 0 2 w → tm_at M968 a 0 2 w := fun a o w h q => J971.keepL (I931.up h) (by decide) (K938 a o w h q)
                            have K979 : ∀ (a : Nat) (w : Value), T0 a = some (0, 6, 0) → tm_at M0 a 6 8 w → tm_at M968 a 6 8 w := fun a w h q => J971.keep (I931.up h) (by decide) (K939 a w h q)
                            have q980 := J971.keep t934 (by decide) q940
                            have t981 := J971.up t941
                            have q982 := J971.keep t934 (by decide) q942
                            have t983 := J971.up t943
                            have q984 := J971.keepL t943 (by decide) q944
                            have q985 := J971.keep t937 (by decide) q945
                            have q986 := J971.keep t934 (by decide) q946
                            have q987 := J971.keep t937 (by decide) q947
                            have q988 := J971.keep t937 (by decide) q948
                            have q989 := J971.keepL t941 (by decide) q949
                            have q990 := J971.keep t935 (by decide) q950
                            have q991 := J971.keep t937 (by decide) q951
                            have q992 := J971.keep t937 (by decide) q952
                            refine mv_astore_n (lv' := [(3, .ref a974), (2, .ref a72), (0, .ref o0), (1, .ref a19)]) d_TrustDesk_failureOf_32 rfl (by decide) rfl ?_
                            refine mv_aload_n d_TrustDesk_failureOf_33 rfl rfl ?_
                            refine mv_aload_n d_TrustDesk_failureOf_34 rfl rfl ?_
                            refine tr_getK (k := 0) q991 d_TrustDesk_failureOf_35 f_TrustDesk_308_11 ?_
                            refine mv_aload_n d_TrustDesk_failureOf_38 rfl rfl ?_
                            refine mv_aload_n d_TrustDesk_failureOf_39 rfl rfl ?_
                            obtain ⟨_, b999, -⟩ := I972.1 _ _ t976
                            refine mv_callV (kc' := 0) (ks' := 0) (As := [.int v82, .ref a72, .ref a974]) (st9 := [.ref a974, .ref a72, .int v82, .ref o0]) d_TrustDesk_failureOf_40 lV_TrustDesk_329 b999 rfl (tc_TrustDesk_isBarred (d := (d + 4)) (x9 := x9) (o0 := o0) (x1 := v82) (o2 := a72) (o3 := a974) t976 t975 t_a974 I972.start) rfl (Nat.le_of_ble_eq_true rfl) (Nat.le_of_ble_eq_true rfl) (Nat.le_of_ble_eq_true rfl) (hst := rfl) (fun b993r M994 n995 b993 => ?_)
                            obtain ⟨T996, J997, v1000, rfl, b1001, b1002⟩ := b993
                            have I998 := I972.call J997 (tm_sub (by decide)) (Or.inl rfl)
                            have t1003 := J997.up t_a974
                            have t1004 := J997.up t975
                            have t1005 := J997.up t976
                            have t1006 := J997.up t977
                            have K1007 : ∀ (a o : Nat) (w : Value), T0 a = some (3, 3, o) → tm_at M0 a 0 2 w → tm_at M994 a 0 2 w := fun a o w h q => J997.keepL (I972.up h) (by decide) (K978 a o w h q)
                            have K1008 : ∀ (a : Nat) (w : Value), T0 a = some (0, 6, 0) → tm_at M0 a 6 8 w → tm_at M994 a 6 8 w := fun a w h q => J997.keep (I972.up h) (by decide) (K979 a w h q)
                            have q1009 := J997.keep t976 (by decide) q980
                            have t1010 := J997.up t981
                            have q1011 := J997.keep t976 (by decide) q982
                            have t1012 := J997.up t983
                            have q1013 := J997.keepL t983 (by decide) q984
                            have q1014 := J997.keep t977 (by decide) q985
                            have q1015 := J997.keep t976 (by decide) q986
                            have q1016 := J997.keep t977 (by decide) q987
                            have q1017 := J997.keep t977 (by decide) q988
                            have q1018 := J997.keepL t981 (by decide) q989
                            have q1019 := J997.keep t975 (by decide) q990
                            have q1020 := J997.keep t977 (by decide) q991
                            have q1021 := J997.keep t977 (by decide) q992
                            have := mz_hi v1000
                            refine mv_if_eqZ (tgt := 48) (a := v1000.toInt) d_TrustDesk_failureOf_43 (by decide) rfl (fun b1022 => ?_) (fun b1022 => ?_)
                            · refine mv_aload_n d_TrustDesk_failureOf_48 rfl rfl ?_
                              refine mv_aload_n d_TrustDesk_failureOf_49 rfl rfl ?_
                              refine mv_aload_n d_TrustDesk_failureOf_50 rfl rfl ?_
                              obtain ⟨_, b1029, -⟩ := I998.1 _ _ t1005
                              refine mv_callV (kc' := 0) (ks' := 0) (As := [.ref a19, .ref a72]) (st9 := [.ref a72, .ref a19, .ref o0]) d_TrustDesk_failureOf_51 lV_TrustDesk_333 b1029 rfl (tc_TrustDesk_marksLeft (d := (d + 4)) (x9 := x9) (o0 := o0) (o1 := a19) (o2 := a72) t1005 t1006 t1004 I998.start) rfl (Nat.le_of_ble_eq_true rfl) (Nat.le_of_ble_eq_true rfl) (Nat.le_of_ble_eq_true rfl) (hst := rfl) (fun b1023r M1024 n1025 b1023 => ?_)
                              obtain ⟨T1026, J1027, v1030, rfl⟩ := b1023
                              have I1028 := I998.call J1027 (tm_sub (by decide)) (Or.inl rfl)
                              have t1031 := J1027.up t1003
                              have t1032 := J1027.up t1004
                              have t1033 := J1027.up t1005
                              have t1034 := J1027.up t1006
                              have K1035 : ∀ (a o : Nat) (w : Value), T0 a = some (3, 3, o) → tm_at M0 a 0 2 w → tm_at M1024 a 0 2 w := fun a o w h q => J1027.keepL (I998.up h) (by decide) (K1007 a o w h q)
                              have K1036 : ∀ (a : Nat) (w : Value), T0 a = some (0, 6, 0) → tm_at M0 a 6 8 w → tm_at M1024 a 6 8 w := fun a w h q => J1027.keep (I998.up h) (by decide) (K1008 a w h q)
                              have q1037 := J1027.keep t1005 (by decide) q1009
                              have t1038 := J1027.up t1010
                              have q1039 := J1027.keep t1005 (by decide) q1011
                              have t1040 := J1027.up t1012
                              have q1041 := J1027.keepL t1012 (by decide) q1013
                              have q1042 := J1027.keep t1006 (by decide) q1014
                              have q1043 := J1027.keep t1005 (by decide) q1015
                              have q1044 := J1027.keep t1006 (by decide) q1016
                              have q1045 := J1027.keep t1006 (by decide) q1017
                              have q1046 := J1027.keepL t1010 (by decide) q1018
                              have q1047 := J1027.keep t1004 (by decide) q1019
                              have q1048 := J1027.keep t1006 (by decide) q1020
                              have q1049 := J1027.keep t1006 (by decide) q1021
                              refine mv_callS (kc' := 0) (ks' := 0) (As := [.int v1030]) (st9 := [.int v1030]) d_TrustDesk_failureOf_54 lS_TrustDesk_337 (tc_Integer_bitCount (d := (d + 8)) (x9 := x9) (x1 := v1030)  I1028.start) rfl (Nat.le_of_ble_eq_true rfl) (Nat.le_of_ble_eq_true rfl) (Nat.le_of_ble_eq_true rfl) (hst := rfl) (fun b1050r M1051 n1052 b1050 => ?_)
                              obtain ⟨T1053, J1054, v1056, rfl⟩ := b1050
                              have I1055 := I1028.call J1054 (tm_sub (by decide)) (Or.inl rfl)
                              have t1057 := J1054.up t1031
                              have t1058 := J1054.up t1032
                              have t1059 := J1054.up t1033
                              have t1060 := J1054.up t1034
                              have K1061 : ∀ (a o : Nat) (w : Value), T0 a = some (3, 3, o) → tm_at M0 a 0 2 w → tm_at M1051 a 0 2 w := fun a o w h q => J1054.keepL (I1028.up h) (by decide) (K1035 a o w h q)
                              have K1062 : ∀ (a : Nat) (w : Value), T0 a = some (0, 6, 0) → tm_at M0 a 6 8 w → tm_at M1051 a 6 8 w := fun a w h q => J1054.keep (I1028.up h) (by decide) (K1036 a w h q)
                              have q1063 := J1054.keep t1033 (by decide) q1037
                              have t1064 := J1054.up t1038
                              have q1065 := J1054.keep t1033 (by decide) q1039
                              have t1066 := J1054.up t1040
                              have q1067 := J1054.keepL t1040 (by decide) q1041
                              have q1068 := J1054.keep t1034 (by decide) q1042
                              have q1069 := J1054.keep t1033 (by decide) q1043
                              have q1070 := J1054.keep t1034 (by decide) q1044
                              have q1071 := J1054.keep t1034 (by decide) q1045
                              have q1072 := J1054.keepL t1038 (by decide) q1046
                              have q1073 := J1054.keep t1032 (by decide) q1047
                              have q1074 := J1054.keep t1034 (by decide) q1048
                              have q1075 := J1054.keep t1034 (by decide) q1049
                              refine mv_aload_n d_TrustDesk_failureOf_57 rfl rfl ?_
                              refine mv_iconst (v := 1) d_TrustDesk_failureOf_58 (by decide) ?_
                              obtain ⟨_, b1082, -⟩ := I1055.1 _ _ t1057
                              refine mv_callV (kc' := 0) (ks' := 0) (As := [.int 1]) (st9 := [.int 1, .ref a974, .int v1056]) d_TrustDesk_failureOf_59 lV_TrustDesk_118 b1082 rfl (tc_Act_rule (d := (d + 8)) (x9 := x9) (o0 := a974) (x1 := 1) t1057 I1055.start) rfl (Nat.le_of_ble_eq_true rfl) (Nat.le_of_ble_eq_true rfl) (Nat.le_of_ble_eq_true rfl) (hst := rfl) (fun b1076r M1077 n1078 b1076 => ?_)
                              obtain ⟨T1079, J1080, v1083, rfl⟩ := b1076
                              have I1081 := I1055.call J1080 (tm_sub (by decide)) (Or.inl rfl)
                              have t1084 := J1080.up t1057
                              have t1085 := J1080.up t1058
                              have t1086 := J1080.up t1059
                              have t1087 := J1080.up t1060
                              have K1088 : ∀ (a o : Nat) (w : Value), T0 a = some (3, 3, o) → tm_at M0 a 0 2 w → tm_at M1077 a 0 2 w := fun a o w h q => J1080.keepL (I1055.up h) (by decide) (K1061 a o w h q)
                              have K1089 : ∀ (a : Nat) (w : Value), T0 a = some (0, 6, 0) → tm_at M0 a 6 8 w → tm_at M1077 a 6 8 w := fun a w h q => J1080.keep (I1055.up h) (by decide) (K1062 a w h q)
                              have q1090 := J1080.keep t1059 (by decide) q1063
                              have t1091 := J1080.up t1064
                              have q1092 := J1080.keep t1059 (by decide) q1065
                              have t1093 := J1080.up t1066
                              have q1094 := J1080.keepL t1066 (by decide) q1067
                              have q1095 := J1080.keep t1060 (by decide) q1068
                              have q1096 := J1080.keep t1059 (by decide) q1069
                              have q1097 := J1080.keep t1060 (by decide) q1070
                              have q1098 := J1080.keep t1060 (by decide) q1071
                              have q1099 := J1080.keepL t1064 (by decide) q1072
                              have q1100 := J1080.keep t1058 (by decide) q1073
                              have q1101 := J1080.keep t1060 (by decide) q1074
                              have q1102 := J1080.keep t1060 (by decide) q1075
                              have := mz_hi v1056
                              have := mz_hi v1083
                              refine mv_icmp_geZ (tgt := 67) (a := v1056.toInt) (b := v1083.toInt) d_TrustDesk_failureOf_62 (by decide) rfl rfl (fun b1103 => ?_) (fun b1103 => ?_)
                              · refine mv_aload_n d_TrustDesk_failureOf_67 rfl rfl ?_
                                refine mv_aload_n d_TrustDesk_failureOf_68 rfl rfl ?_
                                refine mv_aload_n d_TrustDesk_failureOf_69 rfl rfl ?_
                                obtain ⟨_, b1110, -⟩ := I1081.1 _ _ t1086
                                refine mv_callV (kc' := 0) (ks' := 0) (As := [.ref a19, .ref a72]) (st9 := [.ref a72, .ref a19, .ref o0]) d_TrustDesk_failureOf_70 lV_TrustDesk_342 b1110 rfl (tc_TrustDesk_isCarried (d := (d + 4)) (x9 := x9) (o0 := o0) (o1 := a19) (o2 := a72) t1086 t1087 t1085 I1081.start) rfl (Nat.le_of_ble_eq_true rfl) (Nat.le_of_ble_eq_true rfl) (Nat.le_of_ble_eq_true rfl) (hst := rfl) (fun b1104r M1105 n1106 b1104 => ?_)
                                obtain ⟨T1107, J1108, v1111, rfl, b1112, b1113⟩ := b1104
                                have I1109 := I1081.call J1108 (tm_sub (by decide)) (Or.inl rfl)
                                have t1114 := J1108.up t1084
                                have t1115 := J1108.up t1085
                                have t1116 := J1108.up t1086
                                have t1117 := J1108.up t1087
                                have K1118 : ∀ (a o : Nat) (w : Value), T0 a = some (3, 3, o) → tm_at M0 a 0 2 w → tm_at M1105 a 0 2 w := fun a o w h q => J1108.keepL (I1081.up h) (by decide) (K1088 a o w h q)
                                have K1119 : ∀ (a : Nat) (w : Value), T0 a = some (0, 6, 0) → tm_at M0 a 6 8 w → tm_at M1105 a 6 8 w := fun a w h q => J1108.keep (I1081.up h) (by decide) (K1089 a w h q)
                                have q1120 := J1108.keep t1086 (by decide) q1090
                                have t1121 := J1108.up t1091
                                have q1122 := J1108.keep t1086 (by decide) q1092
                                have t1123 := J1108.up t1093
                                have q1124 := J1108.keepL t1093 (by decide) q1094
                                have q1125 := J1108.keep t1087 (by decide) q1095
                                have q1126 := J1108.keep t1086 (by decide) q1096
                                have q1127 := J1108.keep t1087 (by decide) q1097
                                have q1128 := J1108.keep t1087 (by decide) q1098
                                have q1129 := J1108.keepL t1091 (by decide) q1099
                                have q1130 := J1108.keep t1085 (by decide) q1100
                                have q1131 := J1108.keep t1087 (by decide) q1101
                                have q1132 := J1108.keep t1087 (by decide) q1102
                                have := mz_hi v1111
                                refine mv_if_neZ (tgt := 78) (a := v1111.toInt) d_TrustDesk_failureOf_73 (by decide) rfl (fun b1133 => ?_) (fun b1133 => ?_)
                                · refine mv_aload_n d_TrustDesk_failureOf_78 rfl rfl ?_
                                  obtain ⟨v1135, q1134⟩ := tm_atI I1109 t1117 (k := 7) rfl
                                  refine tr_getK q1134 d_TrustDesk_failureOf_79 f_TrustDesk_345_11 ?_
                                  have := mz_hi v1135
                                  refine mv_if_leZ (tgt := 89) (a := v1135.toInt) d_TrustDesk_failureOf_82 (by decide) rfl (fun b1136 => ?_) (fun b1136 => ?_)
                                  · refine mv_iconst (v := 0) d_TrustDesk_failureOf_89 (by decide) ?_
                                    refine mv_iret d_TrustDesk_failureOf_90 rfl (by first | rfl | decide) ?_
                                    refine mv_istore_n (lv' := [(3, .int 0), (2, .ref a19), (0, .ref o0), (1, .int x1)]) d_TrustDesk_settle_35 rfl (by decide) rfl ?_
                                    refine mv_aload_n d_TrustDesk_settle_36 rfl rfl ?_
                                    refine mv_iload_n d_TrustDesk_settle_37 rfl rfl ?_
                                    refine tr_putKM tm_okF I1109 t1117 (k := 6) rfl ⟨_, rfl⟩ (Or.inl (by decide)) d_TrustDesk_settle_38 p_TrustDesk_318_11 rfl rfl (fun M1137 I1138 q1139 K1140 K1140M => ?_)
                                    have K1141 : ∀ (a o : Nat) (w : Value), T0 a = some (3, 3, o) → tm_at M0 a 0 2 w → tm_at M1137 a 0 2 w := fun a o w h q => K1140 _ 0 2 _ rfl (K1118 a o w h q)
                                    have K1142 : ∀ (a : Nat) (w : Value), T0 a = some (0, 6, 0) → tm_at M0 a 6 8 w → tm_at M1137 a 6 8 w := fun a w h q => K1140 _ 6 8 _ rfl (K1119 a w h q)
                                    refine mv_aload_n d_TrustDesk_settle_41 rfl rfl ?_
                                    refine mv_iload_n d_TrustDesk_settle_42 rfl rfl ?_
                                    refine mv_if_ne_f (tgt := 50) d_TrustDesk_settle_43 (by decide) (by decide) ?_
                                    refine mv_iconst (v := 1) d_TrustDesk_settle_46 (by decide) ?_
                                    refine mv_goto (tgt := 51) d_TrustDesk_settle_47 (by decide) ?_
                                    refine tr_putKM tm_okF I1138 t1117 (k := 5) rfl ⟨_, rfl⟩ (Or.inl (by decide)) d_TrustDesk_settle_51 p_TrustDesk_284_11 rfl rfl (fun M1143 I1144 q1145 K1146 K1146M => ?_)
                                    have K1147 : ∀ (a o : Nat) (w : Value), T0 a = some (3, 3, o) → tm_at M0 a 0 2 w → tm_at M1143 a 0 2 w := fun a o w h q => K1146 _ 0 2 _ rfl (K1141 a o w h q)
                                    have K1148 : ∀ (a : Nat) (w : Value), T0 a = some (0, 6, 0) → tm_at M0 a 6 8 w → tm_at M1143 a 6 8 w := fun a w h q => K1146 _ 6 8 _ rfl (K1142 a w h q)
                                    refine mv_iload_n d_TrustDesk_settle_54 rfl rfl ?_
                                    refine mv_if_ne_f (tgt := 63) d_TrustDesk_settle_55 (by decide) (by decide) ?_
                                    refine mv_aload_n d_TrustDesk_settle_58 rfl rfl ?_
                                    refine mv_aload_n d_TrustDesk_settle_59 rfl rfl ?_
                                    obtain ⟨_, b1149, -⟩ := I1144.1 _ _ t1116
                                    refine mv_callV (kc1 := 146) (ks1 := 11534) (kc' := 0) (ks' := 0) (As := [.ref a19]) (st9 := [.ref a19, .ref o0]) d_TrustDesk_settle_60 lV_TrustDesk_321 b1149 rfl (mj_enter (by decide) (Nat.le_of_ble_eq_true rfl) ?_) rfl (Nat.le_of_ble_eq_true rfl) (Nat.le_of_ble_eq_true rfl) (Nat.le_of_ble_eq_true rfl) (hst := rfl) (fun _ _ _ h => h)
                                    refine mv_aload_n d_TrustDesk_carryOut_0 rfl rfl ?_
                                    refine mv_aload_n d_TrustDesk_carryOut_1 rfl rfl ?_
                                    refine tr_getK (k := 1) (K1146 _ 11 1 _ rfl (K1140 _ 11 1 _ rfl q1128)) d_TrustDesk_carryOut_2 f_TrustDesk_302_11 ?_
                                    obtain ⟨_, b1150, -⟩ := I1144.1 _ _ t1116
                                    refine mv_callV (kc1 := 0) (ks1 := 0) (kc' := 146) (ks' := 11534) (As := [.int v31]) (st9 := [.int v31, .ref o0]) d_TrustDesk_carryOut_5 lV_TrustDesk_257 b1150 rfl (mj_enter (by decide) (Nat.le_of_ble_eq_true rfl) ?_) rfl (Nat.le_of_ble_eq_true rfl) (Nat.le_of_ble_eq_true rfl) (Nat.le_of_ble_eq_true rfl) (hst := rfl) (fun _ _ _ h => h)
                                    refine mv_iload_n d_TrustDesk_fundAt_0 rfl rfl ?_
                                    have := mz_hi v31
                                    refine mv_if_ltZ (tgt := 29) (a := v31.toInt) d_TrustDesk_fundAt_1 (by decide) rfl (fun b1151 => absurd b1151 (by omega)) (fun b1151 => ?_)
                                    refine mv_iload_n d_TrustDesk_fundAt_4 rfl rfl ?_
                                    refine mv_aload_n d_TrustDesk_fundAt_5 rfl rfl ?_
                                    refine tr_getK (k := 6) (K1146 _ 12 6 _ rfl (K1140 _ 12 6 _ rfl q1120)) d_TrustDesk_fundAt_6 f_TrustDesk_53_12 ?_
                                    obtain ⟨m1153, e1154, N1155, f1156, h1152⟩ := tm_lsn I1144 t1121 (K1146 _ 0 2 _ rfl (K1140 _ 0 2 _ rfl q1129))
                                    refine mv_callV_s (kc' := 0) (ks' := 0) [] [.ref Lf, .int v31] d_TrustDesk_fundAt_9 lV_TrustDesk_97 h1152.1 rfl (tc_L_size (d := (d + 7)) h1152.1) rfl (Nat.le_of_ble_eq_true rfl) (Nat.le_of_ble_eq_true rfl) (Nat.le_of_ble_eq_true rfl) rfl ?_
                                    have := mz_hi v31
                                    have := mz_hi n51
                                    refine mv_icmp_geZ (tgt := 29) (a := v31.toInt) (b := n51.toInt) d_TrustDesk_fundAt_12 (by decide) rfl rfl (fun b1157 => ?_) (fun b1157 => ?_)
                                    · refine mv_null d_TrustDesk_fundAt_29 ?_
                                      refine mv_aret (r := none) d_TrustDesk_fundAt_30 rfl (by first | exact Or.inl ⟨_, rfl⟩ | exact Or.inr ⟨_, rfl⟩) ?_
                                      refine mv_astore_nN (lv' := [(2, .null), (0, .ref o0), (1, .ref a19)]) d_TrustDesk_carryOut_8 rfl (by decide) rfl ?_
                                      refine mv_aload_nN d_TrustDesk_carryOut_9 rfl rfl ?_
                                      refine mv_ifnonnullN d_TrustDesk_carryOut_10 ?_
                                      refine mv_vret d_TrustDesk_carryOut_13 rfl ?_
                                      refine mv_iload_n d_TrustDesk_settle_63 rfl rfl ?_
                                      exact mv_iret d_TrustDesk_settle_64 rfl (by first | rfl | decide) ⟨_, I1144, _, rfl, Or.inl ⟨K1147, K1148⟩⟩
                                    · refine mv_aload_n d_TrustDesk_fundAt_15 rfl rfl ?_
                                      refine tr_getK (k := 6) (K1146 _ 12 6 _ rfl (K1140 _ 12 6 _ rfl q1120)) d_TrustDesk_fundAt_16 f_TrustDesk_53_12 ?_
                                      refine mv_iload_n d_TrustDesk_fundAt_19 rfl rfl ?_
                                      obtain ⟨m1159, e1160, N1161, f1162, h1158⟩ := tm_lsn I1144 t1121 (K1146 _ 0 2 _ rfl (K1140 _ 0 2 _ rfl q1129))
                                      have u1163e := (tm_el (i := v31) h1158 (by omega) (by omega)).1
                                      have u1163i := (tm_el (i := v31) h1158 (by omega) (by omega)).2.1
                                      obtain ⟨_, u1163f, u1163t⟩ := tm_ge.el h1158 (I1144.keepG I0.1 h_Lf (by decide) g73)
                                      have t_z1164 : T1107 a72 = some (0, 6, 0) := u1163t
                                      refine mv_callV_s (kc' := 0) (ks' := 0) [.int v31] [.int v31, .ref Lf] d_TrustDesk_fundAt_20 lV_TrustDesk_158 h1158.1 rfl (tc_L_get (d := (d + 5)) h1158.1 u1163e (by omega) (by omega) u1163i u1163f) rfl (Nat.le_of_ble_eq_true rfl) (Nat.le_of_ble_eq_true rfl) (Nat.le_of_ble_eq_true rfl) rfl ?_
                                      obtain ⟨_, b1165, -⟩ := I1144.1 _ _ t_z1164
                                      refine mv_castS (T9 := kF_Fund) (N := 15) d_TrustDesk_fundAt_23 (mj_in1 (List.mem_of_getElem? (i := 655) (by decide +kernel)) rfl) b1165 rfl ?_
                                      refine mv_goto (tgt := 30) d_TrustDesk_fundAt_26 (by decide) ?_
                                      refine mv_aret (r := (some a72)) d_TrustDesk_fundAt_30 rfl (by first | exact Or.inl ⟨_, rfl⟩ | exact Or.inr ⟨_, rfl⟩) ?_
                                      refine mv_astore_n (lv' := [(2, .ref a72), (0, .ref o0), (1, .ref a19)]) d_TrustDesk_carryOut_8 rfl (by decide) rfl ?_
                                      refine mv_aload_n d_TrustDesk_carryOut_9 rfl rfl ?_
                                      refine mv_ifnonnull (tgt := 14) d_TrustDesk_carryOut_10 (by decide) ?_
                                      refine mv_aload_n d_TrustDesk_carryOut_14 rfl rfl ?_
                                      refine tr_getK (k := 0) (K1146 _ 11 0 _ rfl (K1140 _ 11 0 _ rfl q1131)) d_TrustDesk_carryOut_15 f_TrustDesk_308_11 ?_
                                      refine mv_tableIn (tgt := 60) (off := 42) d_TrustDesk_carryOut_18 (by omega) (by omega) (by rw [b83]; rfl) (by decide) ?_
                                      refine mv_aload_n d_TrustDesk_carryOut_60 rfl rfl ?_
                                      refine mv_aload_n d_TrustDesk_carryOut_61 rfl rfl ?_
                                      refine mv_aload_n d_TrustDesk_carryOut_62 rfl rfl ?_
                                      refine mv_aload_n d_TrustDesk_carryOut_63 rfl rfl ?_
                                      refine tr_getK (k := 2) (K1146 _ 11 2 _ rfl (K1140 _ 11 2 _ rfl q1132)) d_TrustDesk_carryOut_64 f_TrustDesk_311_11 ?_
                                      obtain ⟨_, b1166, -⟩ := I1144.1 _ _ t1116
                                      refine mv_callV (kc1 := 0) (ks1 := 0) (kc' := 146) (ks' := 11534) (As := [.int v835]) (st9 := [.int v835, .ref o0, .ref a72, .ref o0]) d_TrustDesk_carryOut_67 lV_TrustDesk_257 b1166 rfl (mj_enter (by decide) (Nat.le_of_ble_eq_true rfl) ?_) rfl (Nat.le_of_ble_eq_true rfl) (Nat.le_of_ble_eq_true rfl) (Nat.le_of_ble_eq_true rfl) (hst := rfl) (fun _ _ _ h => h)
                                      refine mv_iload_n d_TrustDesk_fundAt_0 rfl rfl ?_
                                      have := mz_hi v835
                                      refine mv_if_ltZ (tgt := 29) (a := v835.toInt) d_TrustDesk_fundAt_1 (by decide) rfl (fun b1167 => absurd b1167 (by omega)) (fun b1167 => ?_)
                                      refine mv_iload_n d_TrustDesk_fundAt_4 rfl rfl ?_
                                      refine mv_aload_n d_TrustDesk_fundAt_5 rfl rfl ?_
                                      refine tr_getK (k := 6) (K1146 _ 12 6 _ rfl (K1140 _ 12 6 _ rfl q1120)) d_TrustDesk_fundAt_6 f_TrustDesk_53_12 ?_
                                      obtain ⟨m1169, e1170, N1171, f1172, h1168⟩ := tm_lsn I1144 t1121 (K1146 _ 0 2 _ rfl (K1140 _ 0 2 _ rfl q1129))
                                      refine mv_callV_s (kc' := 0) (ks' := 0) [] [.ref Lf, .int v835] d_TrustDesk_fundAt_9 lV_TrustDesk_97 h1168.1 rfl (tc_L_size (d := (d + 7)) h1168.1) rfl (Nat.le_of_ble_eq_true rfl) (Nat.le_of_ble_eq_true rfl) (Nat.le_of_ble_eq_true rfl) rfl ?_
                                      have := mz_hi v835
                                      have := mz_hi n51
                                      refine mv_icmp_geZ (tgt := 29) (a := v835.toInt) (b := n51.toInt) d_TrustDesk_fundAt_12 (by decide) rfl rfl (fun b1173 => ?_) (fun b1173 => ?_)
                                      · refine mv_null d_TrustDesk_fundAt_29 ?_
                                        refine mv_aret (r := none) d_TrustDesk_fundAt_30 rfl (by first | exact Or.inl ⟨_, rfl⟩ | exact Or.inr ⟨_, rfl⟩) ?_
                                        obtain ⟨_, b1174, -⟩ := I1144.1 _ _ t1116
                                        refine mv_callV (kc1 := 0) (ks1 := 0) (kc' := 0) (ks' := 0) (As := [.ref a72, .null]) (st9 := [.null, .ref a72, .ref o0]) d_TrustDesk_carryOut_70 lV_TrustDesk_395 b1174 rfl (mj_enter (by decide) (Nat.le_of_ble_eq_true rfl) ?_) rfl (Nat.le_of_ble_eq_true rfl) (Nat.le_of_ble_eq_true rfl) (Nat.le_of_ble_eq_true rfl) (hst := rfl) (fun _ _ _ h => h)
                                        refine mv_aload_nN d_TrustDesk_join_0 rfl rfl ?_
                                        refine mv_ifnonnullN d_TrustDesk_join_1 ?_
                                        refine mv_vret d_TrustDesk_join_4 rfl ?_
                                        refine mv_goto (tgt := 100) d_TrustDesk_carryOut_73 (by decide) ?_
                                        refine mv_vret d_TrustDesk_carryOut_100 rfl ?_
                                        refine mv_iload_n d_TrustDesk_settle_63 rfl rfl ?_
                                        exact mv_iret d_TrustDesk_settle_64 rfl (by first | rfl | decide) ⟨_, I1144, _, rfl, Or.inl ⟨K1147, K1148⟩⟩
                                      · refine mv_aload_n d_TrustDesk_fundAt_15 rfl rfl ?_
                                        refine tr_getK (k := 6) (K1146 _ 12 6 _ rfl (K1140 _ 12 6 _ rfl q1120)) d_TrustDesk_fundAt_16 f_TrustDesk_53_12 ?_
                                        refine mv_iload_n d_TrustDesk_fundAt_19 rfl rfl ?_
                                        obtain ⟨m1176, e1177, N1178, f1179, h1175⟩ := tm_lsn I1144 t1121 (K1146 _ 0 2 _ rfl (K1140 _ 0 2 _ rfl q1129))
                                        have u1180e := (tm_el (i := v835) h1175 (by omega) (by omega)).1
                                        have u1180i := (tm_el (i := v835) h1175 (by omega) (by omega)).2.1
                                        obtain ⟨_, u1180f, u1180t⟩ := tm_ge.el h1175 (I1144.keepG I0.1 h_Lf (by decide) g877)
                                        have t_z1181 : T1107 a876 = some (0, 6, 0) := u1180t
                                        refine mv_callV_s (kc' := 0) (ks' := 0) [.int v835] [.int v835, .ref Lf] d_TrustDesk_fundAt_20 lV_TrustDesk_158 h1175.1 rfl (tc_L_get (d := (d + 5)) h1175.1 u1180e (by omega) (by omega) u1180i u1180f) rfl (Nat.le_of_ble_eq_true rfl) (Nat.le_of_ble_eq_true rfl) (Nat.le_of_ble_eq_true rfl) rfl ?_
                                        obtain ⟨_, b1182, -⟩ := I1144.1 _ _ t_z1181
                                        refine mv_castS (T9 := kF_Fund) (N := 15) d_TrustDesk_fundAt_23 (mj_in1 (List.mem_of_getElem? (i := 655) (by decide +kernel)) rfl) b1182 rfl ?_
                                        refine mv_goto (tgt := 30) d_TrustDesk_fundAt_26 (by decide) ?_
                                        refine mv_aret (r := (some a876)) d_TrustDesk_fundAt_30 rfl (by first | exact Or.inl ⟨_, rfl⟩ | exact Or.inr ⟨_, rfl⟩) ?_
                                        obtain ⟨_, b1183, -⟩ := I1144.1 _ _ t1116
                                        refine mv_callV (kc1 := 146) (ks1 := 11534) (kc' := 0) (ks' := 0) (As := [.ref a72, .ref a876]) (st9 := [.ref a876, .ref a72, .ref o0]) d_TrustDesk_carryOut_70 lV_TrustDesk_395 b1183 rfl (mj_enter (by decide) (Nat.le_of_ble_eq_true rfl) ?_) rfl (Nat.le_of_ble_eq_true rfl) (Nat.le_of_ble_eq_true rfl) (Nat.le_of_ble_eq_true rfl) (hst := rfl) (fun _ _ _ h => h)
                                        refine mv_aload_n d_TrustDesk_join_0 rfl rfl ?_
                                        refine mv_ifnonnull (tgt := 5) d_TrustDesk_join_1 (by decide) ?_
                                        refine mv_aload_n d_TrustDesk_join_5 rfl rfl ?_
                                        refine mv_aload_n d_TrustDesk_join_6 rfl rfl ?_
                                        obtain ⟨_, b1190, -⟩ := I1144.1 _ _ t1116
                                        refine mv_callV (kc' := 146) (ks' := 11534) (As := [.ref a72]) (st9 := [.ref a72, .ref o0]) d_TrustDesk_join_7 lV_TrustDesk_412 b1190 rfl (tc_TrustDesk_worthOf (d := (d + 6)) (x9 := x9) (o0 := o0) (o1 := a72) t1116 t_z1164 I1144.start) rfl (Nat.le_of_ble_eq_true rfl) (Nat.le_of_ble_eq_true rfl) (Nat.le_of_ble_eq_true rfl) (hst := rfl) (fun b1184r M1185 n1186 b1184 => ?_)
                                        obtain ⟨T1187, J1188, v1191, rfl⟩ := b1184
                                        have I1189 := I1144.call J1188 (tm_sub (by decide)) (Or.inl rfl)
                                        have t1192 := J1188.up t1116
                                        have t1193 := J1188.up t_z1164
                                        have t1194 := J1188.up t_z1181
                                        have t1195 := J1188.up t1117
                                        have K1196 : ∀ (a o : Nat) (w : Value), T0 a = some (3, 3, o) → tm_at M0 a 0 2 w → tm_at M1185 a 0 2 w := fun a o w h q => J1188.keepL (I1144.up h) (by decide) (K1147 a o w h q)
                                        have K1197 : ∀ (a : Nat) (w : Value), T0 a = some (0, 6, 0) → tm_at M0 a 6 8 w → tm_at M1185 a 6 8 w := fun a w h q => J1188.keep (I1144.up h) (by decide) (K1148 a w h q)
                                        have q1198 := J1188.keep t1116 (by decide) (K1146 _ 12 6 _ rfl (K1140 _ 12 6 _ rfl q1120))
                                        have t1199 := J1188.up t1121
                                        have q1200 := J1188.keep t1116 (by decide) (K1146 _ 12 8 _ rfl (K1140 _ 12 8 _ rfl q1122))
                                        have t1201 := J1188.up t1123
                                        have q1202 := J1188.keepL t1123 (by decide) (K1146 _ 0 2 _ rfl (K1140 _ 0 2 _ rfl q1124))
                                        have q1203 := J1188.keep t1116 (by decide) (K1146 _ 12 12 _ rfl (K1140 _ 12 12 _ rfl q1126))
                                        have q1204 := J1188.keep t1117 (by decide) (K1146 _ 11 4 _ rfl (K1140 _ 11 4 _ rfl q1127))
                                        have q1205 := J1188.keep t1117 (by decide) (K1146 _ 11 1 _ rfl (K1140 _ 11 1 _ rfl q1128))
                                        have q1206 := J1188.keepL t1121 (by decide) (K1146 _ 0 2 _ rfl (K1140 _ 0 2 _ rfl q1129))
                                        have q1207 := J1188.keep t1115 (by decide) (K1146 _ 6 8 _ rfl (K1140 _ 6 8 _ rfl q1130))
                                        have q1208 := J1188.keep t1117 (by decide) (K1146 _ 11 0 _ rfl (K1140 _ 11 0 _ rfl q1131))
                                        have q1209 := J1188.keep t1117 (by decide) (K1146 _ 11 2 _ rfl (K1140 _ 11 2 _ rfl q1132))
                                        have q1210 := J1188.keep t1117 (by decide) (K1146 _ 11 7 _ rfl (K1140 _ 11 7 _ rfl q1134))
                                        have q1211 := J1188.keep t1117 (by decide) (K1146 _ 11 6 _ rfl q1139)
                                        have q1212 := J1188.keep t1117 (by decide) q1145
                                        refine mv_lstore_n (lv' := [(3, .long v1191), (0, .ref o0), (1, .ref a72), (2, .ref a876)]) d_TrustDesk_join_10 rfl (by decide) rfl ?_
                                        refine mv_aload_n d_TrustDesk_join_11 rfl rfl ?_
                                        refine mv_aload_n d_TrustDesk_join_12 rfl rfl ?_
                                        obtain ⟨_, b1219, -⟩ := I1189.1 _ _ t1192
                                        refine mv_callV (kc' := 146) (ks' := 11534) (As := [.ref a876]) (st9 := [.ref a876, .ref o0]) d_TrustDesk_join_13 lV_TrustDesk_412 b1219 rfl (tc_TrustDesk_worthOf (d := (d + 6)) (x9 := x9) (o0 := o0) (o1 := a876) t1192 t1194 I1189.start) rfl (Nat.le_of_ble_eq_true rfl) (Nat.le_of_ble_eq_true rfl) (Nat.le_of_ble_eq_true rfl) (hst := rfl) (fun b1213r M1214 n1215 b1213 => ?_)
                                        obtain ⟨T1216, J1217, v1220, rfl⟩ := b1213
                                        have I1218 := I1189.call J1217 (tm_sub (by decide)) (Or.inl rfl)
                                        have t1221 := J1217.up t1192
                                        have t1222 := J1217.up t1193
                                        have t1223 := J1217.up t1194
                                        have t1224 := J1217.up t1195
                                        have K1225 : ∀ (a o : Nat) (w : Value), T0 a = some (3, 3, o) → tm_at M0 a 0 2 w → tm_at M1214 a 0 2 w := fun a o w h q => J1217.keepL (I1189.up h) (by decide) (K1196 a o w h q)
                                        have K1226 : ∀ (a : Nat) (w : Value), T0 a = some (0, 6, 0) → tm_at M0 a 6 8 w → tm_at M1214 a 6 8 w := fun a w h q => J1217.keep (I1189.up h) (by decide) (K1197 a w h q)
                                        have q1227 := J1217.keep t1192 (by decide) q1198
                                        have t1228 := J1217.up t1199
                                        have q1229 := J1217.keep t1192 (by decide) q1200
                                        have t1230 := J1217.up t1201
                                        have q1231 := J1217.keepL t1201 (by decide) q1202
                                        have q1232 := J1217.keep t1192 (by decide) q1203
                                        have q1233 := J1217.keep t1195 (by decide) q1204
                                        have q1234 := J1217.keep t1195 (by decide) q1205
                                        have q1235 := J1217.keepL t1199 (by decide) q1206
                                        have q1236 := J1217.keep t1193 (by decide) q1207
                                        have q1237 := J1217.keep t1195 (by decide) q1208
                                        have q1238 := J1217.keep t1195 (by decide) q1209
                                        have q1239 := J1217.keep t1195 (by decide) q1210
                                        have q1240 := J1217.keep t1195 (by decide) q1211
                                        have q1241 := J1217.keep t1195 (by decide) q1212
                                        refine mv_lstore (lv' := [(5, .long v1220), (3, .long v1191), (0, .ref o0), (1, .ref a72), (2, .ref a876)]) d_TrustDesk_join_16 (by decide) rfl ?_
                                        refine mv_lload_n d_TrustDesk_join_18 rfl rfl ?_
                                        refine mv_lconst (v := 0) d_TrustDesk_join_19 (by decide) ?_
                                        refine mv_lneZ (tgt := 36) (a := v1191.toInt) (b := 0) d_TrustDesk_join_20 d_TrustDesk_join_21 (by decide) rfl (by decide) (fun b1242 => ?_) (fun b1242 => ?_)
                                        · refine mv_aload_n d_TrustDesk_join_36 rfl rfl ?_
                                          refine mv_lload d_TrustDesk_join_37 rfl ?_
                                          refine mv_aload_n d_TrustDesk_join_39 rfl rfl ?_
                                          refine mv_lload_n d_TrustDesk_join_40 rfl rfl ?_
                                          obtain ⟨_, b1249, -⟩ := I1218.1 _ _ t1223
                                          refine mv_callV (kc' := 146) (ks' := 11534) (As := [.long v1220, .ref a72, .long v1191]) (st9 := [.long v1191, .ref a72, .long v1220, .ref a876]) d_TrustDesk_join_41 lV_TrustDesk_416 b1249 rfl (tc_Fund_mixParts (d := (d + 7)) (x9 := x9) (o0 := a876) (x1 := v1220) (o2 := a72) (x3 := v1191) t1223 t1222 I1218.start) rfl (Nat.le_of_ble_eq_true rfl) (Nat.le_of_ble_eq_true rfl) (Nat.le_of_ble_eq_true rfl) (hst := rfl) (fun b1243r M1244 n1245 b1243 => ?_)
                                          obtain ⟨T1246, J1247, rfl⟩ := b1243
                                          have I1248 := I1218.call J1247 (tm_sub (by decide)) (Or.inl rfl)
                                          have t1250 := J1247.up t1221
                                          have t1251 := J1247.up t1222
                                          have t1252 := J1247.up t1223
                                          have t1253 := J1247.up t1224
                                          have K1254 : ∀ (a o : Nat) (w : Value), T0 a = some (3, 3, o) → tm_at M0 a 0 2 w → tm_at M1244 a 0 2 w := fun a o w h q => J1247.keepL (I1218.up h) (by decide) (K1225 a o w h q)
                                          have K1255 : ∀ (a : Nat) (w : Value), T0 a = some (0, 6, 0) → tm_at M0 a 6 8 w → tm_at M1244 a 6 8 w := fun a w h q => J1247.keep (I1218.up h) (by decide) (K1226 a w h q)
                                          have q1256 := J1247.keep t1221 (by decide) q1227
                                          have t1257 := J1247.up t1228
                                          have q1258 := J1247.keep t1221 (by decide) q1229
                                          have t1259 := J1247.up t1230
                                          have q1260 := J1247.keepL t1230 (by decide) q1231
                                          have q1261 := J1247.keep t1221 (by decide) q1232
                                          have q1262 := J1247.keep t1224 (by decide) q1233
                                          have q1263 := J1247.keep t1224 (by decide) q1234
                                          have q1264 := J1247.keepL t1228 (by decide) q1235
                                          have q1265 := J1247.keep t1222 (by decide) q1236
                                          have q1266 := J1247.keep t1224 (by decide) q1237
                                          have q1267 := J1247.keep t1224 (by decide) q1238
                                          have q1268 := J1247.keep t1224 (by decide) q1239
                                          have q1269 := J1247.keep t1224 (by decide) q1240
                                          have q1270 := J1247.keep t1224 (by decide) q1241
                                          refine mv_aload_n d_TrustDesk_join_44 rfl rfl ?_
                                          refine mv_aload_n d_TrustDesk_join_45 rfl rfl ?_
                                          obtain ⟨_, b1277, -⟩ := I1248.1 _ _ t1252
                                          obtain ⟨e1278, q1279, t1280⟩ := tm_atO I0 u875t (k := 11) rfl
                                          obtain ⟨m1281, s1282, n1283, N1284, f1285, l1286⟩ := I0.1 _ _ t1280
                                          have z1287 : tm_at M0 e1278 0 2 (.int s1282) := ⟨_, l1286.1, rfl⟩
                                          have j1288 : tm_at M0 a876 6 8 (.int (-1)) := by rw [← show v896 = -1 from Int32.toInt_inj.mp (by rw [show (-1 : Int32).toInt = -1 from by decide]; omega)]; exact q895
                                          obtain ⟨e1289, q1290, t1291⟩ := tm_atO I0 u71t (k := 11) rfl
                                          obtain ⟨m1292, s1293, n1294, N1295, f1296, l1297⟩ := I0.1 _ _ t1291
                                          have z1298 : tm_at M0 e1289 0 2 (.int s1293) := ⟨_, l1297.1, rfl⟩
                                          have j1299 : tm_at M0 a72 6 8 (.int (-1)) := by rw [← show v79 = -1 from Int32.toInt_inj.mp (by rw [show (-1 : Int32).toInt = -1 from by decide]; omega)]; exact q78
                                          have h1300 : (v31).toNatClampNeg ≠ (v835).toNatClampNeg := fun h => absurd (tm_ge.fn g73 (h ▸ g877)) (by omega)
                                          have h1301 : s1282.toInt + s1293.toInt ≤ 72 := by have := hD _ _ _ _ _ _ _ _ h1300 g73 g877 j1299 j1288 q1290 q1279 z1298 z1287; omega
                                          refine mv_callV (kc' := 0) (ks' := 0) (As := [.ref a72]) (st9 := [.ref a72, .ref a876]) d_TrustDesk_join_46 lV_TrustDesk_420 b1277 rfl (tc_Fund_takeOver_x (d := d) (x9 := x9) (o0 := a876) (o1 := a72) t1252 t1251 (by omega) (I1248.up t1280) (I1248.up t1291) (I1248.keep u875t (by decide) q1279) (I1248.keep u71t (by decide) q1290) (K1254 _ _ _ t1280 z1287) (K1254 _ _ _ t1291 z1298) h1301 I1248.start) rfl (Nat.le_of_ble_eq_true rfl) (Nat.le_of_ble_eq_true rfl) (Nat.le_of_ble_eq_true rfl) (hst := rfl) (fun b1271r M1272 n1273 b1271 => ?_)
                                          obtain ⟨T1274, J1275, rfl, ⟨s1305, z1302, h1303⟩, K1304⟩ := b1271
                                          have I1276 := I1248.call J1275 (tm_sub (by decide)) (Or.inl rfl)
                                          have t1306 := J1275.up t1250
                                          have t1307 := J1275.up t1251
                                          have t1308 := J1275.up t1252
                                          have t1309 := J1275.up t1253
                                          have K1310 : ∀ (a o : Nat) (w : Value), T0 a = some (3, 3, o) → o ≠ a876 → tm_at M0 a 0 2 w → tm_at M1272 a 0 2 w := fun a o w h hx q => K1304 a o w (I1248.up h) hx (K1254 a o w h q)
                                          have K1311 : ∀ (a : Nat) (w : Value), T0 a = some (0, 6, 0) → tm_at M0 a 6 8 w → tm_at M1272 a 6 8 w := fun a w h q => J1275.keep (I1248.up h) (by decide) (K1255 a w h q)
                                          have q1312 := J1275.keep t1250 (by decide) q1256
                                          have t1313 := J1275.up t1257
                                          have q1314 := J1275.keep t1250 (by decide) q1258
                                          have t1315 := J1275.up t1259
                                          have q1316 := J1275.keepL t1259 (by decide) q1260
                                          have q1317 := J1275.keep t1250 (by decide) q1261
                                          have q1318 := J1275.keep t1253 (by decide) q1262
                                          have q1319 := J1275.keep t1253 (by decide) q1263
                                          have q1320 := J1275.keepL t1257 (by decide) q1264
                                          have q1321 := J1275.keep t1251 (by decide) q1265
                                          have q1322 := J1275.keep t1253 (by decide) q1266
                                          have q1323 := J1275.keep t1253 (by decide) q1267
                                          have q1324 := J1275.keep t1253 (by decide) q1268
                                          have q1325 := J1275.keep t1253 (by decide) q1269
                                          have q1326 := J1275.keep t1253 (by decide) q1270
                                          refine mv_aload_n d_TrustDesk_join_49 rfl rfl ?_
                                          refine mv_aload_n d_TrustDesk_join_50 rfl rfl ?_
                                          obtain ⟨v1328, q1327⟩ := tm_atI I1276 t1308 (k := 0) rfl
                                          refine tr_getK q1327 d_TrustDesk_join_51 f_TrustDesk_132_6 ?_
                                          obtain ⟨_, b1335, -⟩ := I1276.1 _ _ t1307
                                          obtain ⟨n1336, q1337, h1338⟩ := hN _ _ g877
                                          have h1339 : 0 ≤ v1328.toInt := by rw [show v1328 = n1336 from tm_at.fnI q1327 (I1276.keep u875t (by decide) q1337)]; exact h1338
                                          refine mv_callV (kc' := 0) (ks' := 0) (As := [.int v1328]) (st9 := [.int v1328, .ref a72]) d_TrustDesk_join_54 lV_TrustDesk_423 b1335 rfl (tc_Fund_giveUp_x (d := (d + 4)) (x9 := x9) (o0 := a72) (x1 := v1328) t1307 I1276.start) rfl (Nat.le_of_ble_eq_true rfl) (Nat.le_of_ble_eq_true rfl) (Nat.le_of_ble_eq_true rfl) (hst := rfl) (fun b1329r M1330 n1331 b1329 => ?_)
                                          obtain ⟨T1332, J1333, rfl, j1340, K1341⟩ := b1329
                                          have I1334 := I1276.call J1333 (tm_sub (by decide)) (Or.inl rfl)
                                          have t1342 := J1333.up t1306
                                          have t1343 := J1333.up t1307
                                          have t1344 := J1333.up t1308
                                          have t1345 := J1333.up t1309
                                          have K1346 : ∀ (a o : Nat) (w : Value), T0 a = some (3, 3, o) → o ≠ a876 → tm_at M0 a 0 2 w → tm_at M1330 a 0 2 w := fun a o w h hx q => J1333.keepL (I1276.up h) (by decide) (K1310 a o w h hx q)
                                          have K1347 : ∀ (a : Nat) (w : Value), T0 a = some (0, 6, 0) → a ≠ a72 → tm_at M0 a 6 8 w → tm_at M1330 a 6 8 w := fun a w h hx q => K1341 a w (I1276.up h) hx (K1311 a w h q)
                                          have q1348 := J1333.keep t1306 (by decide) q1312
                                          have t1349 := J1333.up t1313
                                          have q1350 := J1333.keep t1306 (by decide) q1314
                                          have t1351 := J1333.up t1315
                                          have q1352 := J1333.keepL t1315 (by decide) q1316
                                          have q1353 := J1333.keep t1306 (by decide) q1317
                                          have q1354 := J1333.keep t1309 (by decide) q1318
                                          have q1355 := J1333.keep t1309 (by decide) q1319
                                          have q1356 := J1333.keepL t1313 (by decide) q1320
                                          have q1357 := J1333.keep t1309 (by decide) q1322
                                          have q1358 := J1333.keep t1309 (by decide) q1323
                                          have q1359 := J1333.keep t1309 (by decide) q1324
                                          have q1360 := J1333.keep t1309 (by decide) q1325
                                          have q1361 := J1333.keep t1309 (by decide) q1326
                                          have q1362 := J1333.keep t1308 (by decide) q1327
                                          have z1363 := J1333.keepL (I1276.up t1280) (by decide) z1302
                                          refine mv_vret d_TrustDesk_join_57 rfl ?_
                                          refine mv_goto (tgt := 100) d_TrustDesk_carryOut_73 (by decide) ?_
                                          refine mv_vret d_TrustDesk_carryOut_100 rfl ?_
                                          refine mv_iload_n d_TrustDesk_settle_63 rfl rfl ?_
                                          exact mv_iret d_TrustDesk_settle_64 rfl (by first | rfl | decide) ⟨_, I1334, _, rfl, Or.inr ⟨(v31).toNatClampNeg, (v835).toNatClampNeg, a72, a876, e1289, e1278, s1293, s1282, s1305, v1328, h1300, g73, g877, j1299, j1288, q1290, q1279, z1298, z1287, h1339, h1303, z1363, j1340, K1346, K1347⟩⟩
                                        · refine mv_lload d_TrustDesk_join_24 rfl ?_
                                          refine mv_lconst (v := 0) d_TrustDesk_join_26 (by decide) ?_
                                          refine mv_lneZ (tgt := 36) (a := v1220.toInt) (b := 0) d_TrustDesk_join_27 d_TrustDesk_join_28 (by decide) rfl (by decide) (fun b1364 => ?_) (fun b1364 => ?_)
                                          · refine mv_aload_n d_TrustDesk_join_36 rfl rfl ?_
                                            refine mv_lload d_TrustDesk_join_37 rfl ?_
                                            refine mv_aload_n d_TrustDesk_join_39 rfl rfl ?_
                                            refine mv_lload_n d_TrustDesk_join_40 rfl rfl ?_
                                            obtain ⟨_, b1371, -⟩ := I1218.1 _ _ t1223
                                            refine mv_callV (kc' := 146) (ks' := 11534) (As := [.long v1220, .ref a72, .long v1191]) (st9 := [.long v1191, .ref a72, .long v1220, .ref a876]) d_TrustDesk_join_41 lV_TrustDesk_416 b1371 rfl (tc_Fund_mixParts (d := (d + 7)) (x9 := x9) (o0 := a876) (x1 := v1220) (o2 := a72) (x3 := v1191) t1223 t1222 I1218.start) rfl (Nat.le_of_ble_eq_true rfl) (Nat.le_of_ble_eq_true rfl) (Nat.le_of_ble_eq_true rfl) (hst := rfl) (fun b1365r M1366 n1367 b1365 => ?_)
                                            obtain ⟨T1368, J1369, rfl⟩ := b1365
                                            have I1370 := I1218.call J1369 (tm_sub (by decide)) (Or.inl rfl)
                                            have t1372 := J1369.up t1221
                                            have t1373 := J1369.up t1222
                                            have t1374 := J1369.up t1223
                                            have t1375 := J1369.up t1224
                                            have K1376 : ∀ (a o : Nat) (w : Value), T0 a = some (3, 3, o) → tm_at M0 a 0 2 w → tm_at M1366 a 0 2 w := fun a o w h q => J1369.keepL (I1218.up h) (by decide) (K1225 a o w h q)
                                            have K1377 : ∀ (a : Nat) (w : Value), T0 a = some (0, 6, 0) → tm_at M0 a 6 8 w → tm_at M1366 a 6 8 w := fun a w h q => J1369.keep (I1218.up h) (by decide) (K1226 a w h q)
                                            have q1378 := J1369.keep t1221 (by decide) q1227
                                            have t1379 := J1369.up t1228
                                            have q1380 := J1369.keep t1221 (by decide) q1229
                                            have t1381 := J1369.up t1230
                                            have q1382 := J1369.keepL t1230 (by decide) q1231
                                            have q1383 := J1369.keep t1221 (by decide) q1232
                                            have q1384 := J1369.keep t1224 (by decide) q1233
                                            have q1385 := J1369.keep t1224 (by decide) q1234
                                            have q1386 := J1369.keepL t1228 (by decide) q1235
                                            have q1387 := J1369.keep t1222 (by decide) q1236
                                            have q1388 := J1369.keep t1224 (by decide) q1237
                                            have q1389 := J1369.keep t1224 (by decide) q1238
                                            have q1390 := J1369.keep t1224 (by decide) q1239
                                            have q1391 := J1369.keep t1224 (by decide) q1240
                                            have q1392 := J1369.keep t1224 (by decide) q1241
                                            refine mv_aload_n d_TrustDesk_join_44 rfl rfl ?_
                                            refine mv_aload_n d_TrustDesk_join_45 rfl rfl ?_
                                            obtain ⟨_, b1399, -⟩ := I1370.1 _ _ t1374
                                            obtain ⟨e1400, q1401, t1402⟩ := tm_atO I0 u875t (k := 11) rfl
                                            obtain ⟨m1403, s1404, n1405, N1406, f1407, l1408⟩ := I0.1 _ _ t1402
                                            have z1409 : tm_at M0 e1400 0 2 (.int s1404) := ⟨_, l1408.1, rfl⟩
                                            have j1410 : tm_at M0 a876 6 8 (.int (-1)) := by rw [← show v896 = -1 from Int32.toInt_inj.mp (by rw [show (-1 : Int32).toInt = -1 from by decide]; omega)]; exact q895
                                            obtain ⟨e1411, q1412, t1413⟩ := tm_atO I0 u71t (k := 11) rfl
                                            obtain ⟨m1414, s1415, n1416, N1417, f1418, l1419⟩ := I0.1 _ _ t1413
                                            have z1420 : tm_at M0 e1411 0 2 (.int s1415) := ⟨_, l1419.1, rfl⟩
                                            have j1421 : tm_at M0 a72 6 8 (.int (-1)) := by rw [← show v79 = -1 from Int32.toInt_inj.mp (by rw [show (-1 : Int32).toInt = -1 from by decide]; omega)]; exact q78
                                            have h1422 : (v31).toNatClampNeg ≠ (v835).toNatClampNeg := fun h => absurd (tm_ge.fn g73 (h ▸ g877)) (by omega)
                                            have h1423 : s1404.toInt + s1415.toInt ≤ 72 := by have := hD _ _ _ _ _ _ _ _ h1422 g73 g877 j1421 j1410 q1412 q1401 z1420 z1409; omega
                                            refine mv_callV (kc' := 0) (ks' := 0) (As := [.ref a72]) (st9 := [.ref a72, .ref a876]) d_TrustDesk_join_46 lV_TrustDesk_420 b1399 rfl (tc_Fund_takeOver_x (d := d) (x9 := x9) (o0 := a876) (o1 := a72) t1374 t1373 (by omega) (I1370.up t1402) (I1370.up t1413) (I1370.keep u875t (by decide) q1401) (I1370.keep u71t (by decide) q1412) (K1376 _ _ _ t1402 z1409) (K1376 _ _ _ t1413 z1420) h1423 I1370.start) rfl (Nat.le_of_ble_eq_true rfl) (Nat.le_of_ble_eq_true rfl) (Nat.le_of_ble_eq_true rfl) (hst := rfl) (fun b1393r M1394 n1395 b1393 => ?_)
                                            obtain ⟨T1396, J1397, rfl, ⟨s1427, z1424, h1425⟩, K1426⟩ := b1393
                                            have I1398 := I1370.call J1397 (tm_sub (by decide)) (Or.inl rfl)
                                            have t1428 := J1397.up t1372
                                            have t1429 := J1397.up t1373
                                            have t1430 := J1397.up t1374
                                            have t1431 := J1397.up t1375
                                            have K1432 : ∀ (a o : Nat) (w : Value), T0 a = some (3, 3, o) → o ≠ a876 → tm_at M0 a 0 2 w → tm_at M1394 a 0 2 w := fun a o w h hx q => K1426 a o w (I1370.up h) hx (K1376 a o w h q)
                                            have K1433 : ∀ (a : Nat) (w : Value), T0 a = some (0, 6, 0) → tm_at M0 a 6 8 w → tm_at M1394 a 6 8 w := fun a w h q => J1397.keep (I1370.up h) (by decide) (K1377 a w h q)
                                            have q1434 := J1397.keep t1372 (by decide) q1378
                                            have t1435 := J1397.up t1379
                                            have q1436 := J1397.keep t1372 (by decide) q1380
                                            have t1437 := J1397.up t1381
                                            have q1438 := J1397.keepL t1381 (by decide) q1382
                                            have q1439 := J1397.keep t1372 (by decide) q1383
                                            have q1440 := J1397.keep t1375 (by decide) q1384
                                            have q1441 := J1397.keep t1375 (by decide) q1385
                                            have q1442 := J1397.keepL t1379 (by decide) q1386
                                            have q1443 := J1397.keep t1373 (by decide) q1387
                                            have q1444 := J1397.keep t1375 (by decide) q1388
                                            have q1445 := J1397.keep t1375 (by decide) q1389
                                            have q1446 := J1397.keep t1375 (by decide) q1390
                                            have q1447 := J1397.keep t1375 (by decide) q1391
                                            have q1448 := J1397.keep t1375 (by decide) q1392
                                            refine mv_aload_n d_TrustDesk_join_49 rfl rfl ?_
                                            refine mv_aload_n d_TrustDesk_join_50 rfl rfl ?_
                                            obtain ⟨v1450, q1449⟩ := tm_atI I1398 t1430 (k := 0) rfl
                                            refine tr_getK q1449 d_TrustDesk_join_51 f_TrustDesk_132_6 ?_
                                            obtain ⟨_, b1457, -⟩ := I1398.1 _ _ t1429
                                            obtain ⟨n1458, q1459, h1460⟩ := hN _ _ g877
                                            have h1461 : 0 ≤ v1450.toInt := by rw [show v1450 = n1458 from tm_at.fnI q1449 (I1398.keep u875t (by decide) q1459)]; exact h1460
                                            refine mv_callV (kc' := 0) (ks' := 0) (As := [.int v1450]) (st9 := [.int v1450, .ref a72]) d_TrustDesk_join_54 lV_TrustDesk_423 b1457 rfl (tc_Fund_giveUp_x (d := (d + 4)) (x9 := x9) (o0 := a72) (x1 := v1450) t1429 I1398.start) rfl (Nat.le_of_ble_eq_true rfl) (Nat.le_of_ble_eq_true rfl) (Nat.le_of_ble_eq_true rfl) (hst := rfl) (fun b1451r M1452 n1453 b1451 => ?_)
                                            obtain ⟨T1454, J1455, rfl, j1462, K1463⟩ := b1451
                                            have I1456 := I1398.call J1455 (tm_sub (by decide)) (Or.inl rfl)
                                            have t1464 := J1455.up t1428
                                            have t1465 := J1455.up t1429
                                            have t1466 := J1455.up t1430
                                            have t1467 := J1455.up t1431
                                            have K1468 : ∀ (a o : Nat) (w : Value), T0 a = some (3, 3, o) → o ≠ a876 → tm_at M0 a 0 2 w → tm_at M1452 a 0 2 w := fun a o w h hx q => J1455.keepL (I1398.up h) (by decide) (K1432 a o w h hx q)
                                            have K1469 : ∀ (a : Nat) (w : Value), T0 a = some (0, 6, 0) → a ≠ a72 → tm_at M0 a 6 8 w → tm_at M1452 a 6 8 w := fun a w h hx q => K1463 a w (I1398.up h) hx (K1433 a w h q)
                                            have q1470 := J1455.keep t1428 (by decide) q1434
                                            have t1471 := J1455.up t1435
                                            have q1472 := J1455.keep t1428 (by decide) q1436
                                            have t1473 := J1455.up t1437
                                            have q1474 := J1455.keepL t1437 (by decide) q1438
                                            have q1475 := J1455.keep t1428 (by decide) q1439
                                            have q1476 := J1455.keep t1431 (by decide) q1440
                                            have q1477 := J1455.keep t1431 (by decide) q1441
                                            have q1478 := J1455.keepL t1435 (by decide) q1442
                                            have q1479 := J1455.keep t1431 (by decide) q1444
                                            have q1480 := J1455.keep t1431 (by decide) q1445
                                            have q1481 := J1455.keep t1431 (by decide) q1446
                                            have q1482 := J1455.keep t1431 (by decide) q1447
                                            have q1483 := J1455.keep t1431 (by decide) q1448
                                            have q1484 := J1455.keep t1430 (by decide) q1449
                                            have z1485 := J1455.keepL (I1398.up t1402) (by decide) z1424
                                            refine mv_vret d_TrustDesk_join_57 rfl ?_
                                            refine mv_goto (tgt := 100) d_TrustDesk_carryOut_73 (by decide) ?_
                                            refine mv_vret d_TrustDesk_carryOut_100 rfl ?_
                                            refine mv_iload_n d_TrustDesk_settle_63 rfl rfl ?_
                                            exact mv_iret d_TrustDesk_settle_64 rfl (by first | rfl | decide) ⟨_, I1456, _, rfl, Or.inr ⟨(v31).toNatClampNeg, (v835).toNatClampNeg, a72, a876, e1411, e1400, s1415, s1404, s1427, v1450, h1422, g73, g877, j1421, j1410, q1412, q1401, z1420, z1409, h1461, h1425, z1485, j1462, K1468, K1469⟩⟩
                                          · refine mv_lconst (v := 1) d_TrustDesk_join_31 (by decide) ?_
                                            refine mv_lstore_n (lv' := [(3, .long 1), (5, .long v1220), (0, .ref o0), (1, .ref a72), (2, .ref a876)]) d_TrustDesk_join_32 rfl (by decide) rfl ?_
                                            refine mv_lconst (v := 1) d_TrustDesk_join_33 (by decide) ?_
                                            refine mv_lstore (lv' := [(5, .long 1), (3, .long 1), (0, .ref o0), (1, .ref a72), (2, .ref a876)]) d_TrustDesk_join_34 (by decide) rfl ?_
                                            refine mv_aload_n d_TrustDesk_join_36 rfl rfl ?_
                                            refine mv_lload d_TrustDesk_join_37 rfl ?_
                                            refine mv_aload_n d_TrustDesk_join_39 rfl rfl ?_
                                            refine mv_lload_n d_TrustDesk_join_40 rfl rfl ?_
                                            obtain ⟨_, b1492, -⟩ := I1218.1 _ _ t1223
                                            refine mv_callV (kc' := 146) (ks' := 11534) (As := [.long 1, .ref a72, .long 1]) (st9 := [.long 1, .ref a72, .long 1, .ref a876]) d_TrustDesk_join_41 lV_TrustDesk_416 b1492 rfl (tc_Fund_mixParts (d := (d + 7)) (x9 := x9) (o0 := a876) (x1 := 1) (o2 := a72) (x3 := 1) t1223 t1222 I1218.start) rfl (Nat.le_of_ble_eq_true rfl) (Nat.le_of_ble_eq_true rfl) (Nat.le_of_ble_eq_true rfl) (hst := rfl) (fun b1486r M1487 n1488 b1486 => ?_)
                                            obtain ⟨T1489, J1490, rfl⟩ := b1486
                                            have I1491 := I1218.call J1490 (tm_sub (by decide)) (Or.inl rfl)
                                            have t1493 := J1490.up t1221
                                            have t1494 := J1490.up t1222
                                            have t1495 := J1490.up t1223
                                            have t1496 := J1490.up t1224
                                            have K1497 : ∀ (a o : Nat) (w : Value), T0 a = some (3, 3, o) → tm_at M0 a 0 2 w → tm_at M1487 a 0 2 w := fun a o w h q => J1490.keepL (I1218.up h) (by decide) (K1225 a o w h q)
                                            have K1498 : ∀ (a : Nat) (w : Value), T0 a = some (0, 6, 0) → tm_at M0 a 6 8 w → tm_at M1487 a 6 8 w := fun a w h q => J1490.keep (I1218.up h) (by decide) (K1226 a w h q)
                                            have q1499 := J1490.keep t1221 (by decide) q1227
                                            have t1500 := J1490.up t1228
                                            have q1501 := J1490.keep t1221 (by decide) q1229
                                            have t1502 := J1490.up t1230
                                            have q1503 := J1490.keepL t1230 (by decide) q1231
                                            have q1504 := J1490.keep t1221 (by decide) q1232
                                            have q1505 := J1490.keep t1224 (by decide) q1233
                                            have q1506 := J1490.keep t1224 (by decide) q1234
                                            have q1507 := J1490.keepL t1228 (by decide) q1235
                                            have q1508 := J1490.keep t1222 (by decide) q1236
                                            have q1509 := J1490.keep t1224 (by decide) q1237
                                            have q1510 := J1490.keep t1224 (by decide) q1238
                                            have q1511 := J1490.keep t1224 (by decide) q1239
                                            have q1512 := J1490.keep t1224 (by decide) q1240
                                            have q1513 := J1490.keep t1224 (by decide) q1241
                                            refine mv_aload_n d_TrustDesk_join_44 rfl rfl ?_
                                            refine mv_aload_n d_TrustDesk_join_45 rfl rfl ?_
                                            obtain ⟨_, b1520, -⟩ := I1491.1 _ _ t1495
                                            obtain ⟨e1521, q1522, t1523⟩ := tm_atO I0 u875t (k := 11) rfl
                                            obtain ⟨m1524, s1525, n1526, N1527, f1528, l1529⟩ := I0.1 _ _ t1523
                                            have z1530 : tm_at M0 e1521 0 2 (.int s1525) := ⟨_, l1529.1, rfl⟩
                                            have j1531 : tm_at M0 a876 6 8 (.int (-1)) := by rw [← show v896 = -1 from Int32.toInt_inj.mp (by rw [show (-1 : Int32).toInt = -1 from by decide]; omega)]; exact q895
                                            obtain ⟨e1532, q1533, t1534⟩ := tm_atO I0 u71t (k := 11) rfl
                                            obtain ⟨m1535, s1536, n1537, N1538, f1539, l1540⟩ := I0.1 _ _ t1534
                                            have z1541 : tm_at M0 e1532 0 2 (.int s1536) := ⟨_, l1540.1, rfl⟩
                                            have j1542 : tm_at M0 a72 6 8 (.int (-1)) := by rw [← show v79 = -1 from Int32.toInt_inj.mp (by rw [show (-1 : Int32).toInt = -1 from by decide]; omega)]; exact q78
                                            have h1543 : (v31).toNatClampNeg ≠ (v835).toNatClampNeg := fun h => absurd (tm_ge.fn g73 (h ▸ g877)) (by omega)
                                            have h1544 : s1525.toInt + s1536.toInt ≤ 72 := by have := hD _ _ _ _ _ _ _ _ h1543 g73 g877 j1542 j1531 q1533 q1522 z1541 z1530; omega
                                            refine mv_callV (kc' := 0) (ks' := 0) (As := [.ref a72]) (st9 := [.ref a72, .ref a876]) d_TrustDesk_join_46 lV_TrustDesk_420 b1520 rfl (tc_Fund_takeOver_x (d := d) (x9 := x9) (o0 := a876) (o1 := a72) t1495 t1494 (by omega) (I1491.up t1523) (I1491.up t1534) (I1491.keep u875t (by decide) q1522) (I1491.keep u71t (by decide) q1533) (K1497 _ _ _ t1523 z1530) (K1497 _ _ _ t1534 z1541) h1544 I1491.start) rfl (Nat.le_of_ble_eq_true rfl) (Nat.le_of_ble_eq_true rfl) (Nat.le_of_ble_eq_true rfl) (hst := rfl) (fun b1514r M1515 n1516 b1514 => ?_)
                                            obtain ⟨T1517, J1518, rfl, ⟨s1548, z1545, h1546⟩, K1547⟩ := b1514
                                            have I1519 := I1491.call J1518 (tm_sub (by decide)) (Or.inl rfl)
                                            have t1549 := J1518.up t1493
                                            have t1550 := J1518.up t1494
                                            have t1551 := J1518.up t1495
                                            have t1552 := J1518.up t1496
                                            have K1553 : ∀ (a o : Nat) (w : Value), T0 a = some (3, 3, o) → o ≠ a876 → tm_at M0 a 0 2 w → tm_at M1515 a 0 2 w := fun a o w h hx q => K1547 a o w (I1491.up h) hx (K1497 a o w h q)
                                            have K1554 : ∀ (a : Nat) (w : Value), T0 a = some (0, 6, 0) → tm_at M0 a 6 8 w → tm_at M1515 a 6 8 w := fun a w h q => J1518.keep (I1491.up h) (by decide) (K1498 a w h q)
                                            have q1555 := J1518.keep t1493 (by decide) q1499
                                            have t1556 := J1518.up t1500
                                            have q1557 := J1518.keep t1493 (by decide) q1501
                                            have t1558 := J1518.up t1502
                                            have q1559 := J1518.keepL t1502 (by decide) q1503
                                            have q1560 := J1518.keep t1493 (by decide) q1504
                                            have q1561 := J1518.keep t1496 (by decide) q1505
                                            have q1562 := J1518.keep t1496 (by decide) q1506
                                            have q1563 := J1518.keepL t1500 (by decide) q1507
                                            have q1564 := J1518.keep t1494 (by decide) q1508
                                            have q1565 := J1518.keep t1496 (by decide) q1509
                                            have q1566 := J1518.keep t1496 (by decide) q1510
                                            have q1567 := J1518.keep t1496 (by decide) q1511
                                            have q1568 := J1518.keep t1496 (by decide) q1512
                                            have q1569 := J1518.keep t1496 (by decide) q1513
                                            refine mv_aload_n d_TrustDesk_join_49 rfl rfl ?_
                                            refine mv_aload_n d_TrustDesk_join_50 rfl rfl ?_
                                            obtain ⟨v1571, q1570⟩ := tm_atI I1519 t1551 (k := 0) rfl
                                            refine tr_getK q1570 d_TrustDesk_join_51 f_TrustDesk_132_6 ?_
                                            obtain ⟨_, b1578, -⟩ := I1519.1 _ _ t1550
                                            obtain ⟨n1579, q1580, h1581⟩ := hN _ _ g877
                                            have h1582 : 0 ≤ v1571.toInt := by rw [show v1571 = n1579 from tm_at.fnI q1570 (I1519.keep u875t (by decide) q1580)]; exact h1581
                                            refine mv_callV (kc' := 0) (ks' := 0) (As := [.int v1571]) (st9 := [.int v1571, .ref a72]) d_TrustDesk_join_54 lV_TrustDesk_423 b1578 rfl (tc_Fund_giveUp_x (d := (d + 4)) (x9 := x9) (o0 := a72) (x1 := v1571) t1550 I1519.start) rfl (Nat.le_of_ble_eq_true rfl) (Nat.le_of_ble_eq_true rfl) (Nat.le_of_ble_eq_true rfl) (hst := rfl) (fun b1572r M1573 n1574 b1572 => ?_)
                                            obtain ⟨T1575, J1576, rfl, j1583, K1584⟩ := b1572
                                            have I1577 := I1519.call J1576 (tm_sub (by decide)) (Or.inl rfl)
                                            have t1585 := J1576.up t1549
                                            have t1586 := J1576.up t1550
                                            have t1587 := J1576.up t1551
                                            have t1588 := J1576.up t1552
                                            have K1589 : ∀ (a o : Nat) (w : Value), T0 a = some (3, 3, o) → o ≠ a876 → tm_at M0 a 0 2 w → tm_at M1573 a 0 2 w := fun a o w h hx q => J1576.keepL (I1519.up h) (by decide) (K1553 a o w h hx q)
                                            have K1590 : ∀ (a : Nat) (w : Value), T0 a = some (0, 6, 0) → a ≠ a72 → tm_at M0 a 6 8 w → tm_at M1573 a 6 8 w := fun a w h hx q => K1584 a w (I1519.up h) hx (K1554 a w h q)
                                            have q1591 := J1576.keep t1549 (by decide) q1555
                                            have t1592 := J1576.up t1556
                                            have q1593 := J1576.keep t1549 (by decide) q1557
                                            have t1594 := J1576.up t1558
                                            have q1595 := J1576.keepL t1558 (by decide) q1559
                                            have q1596 := J1576.keep t1549 (by decide) q1560
                                            have q1597 := J1576.keep t1552 (by decide) q1561
                                            have q1598 := J1576.keep t1552 (by decide) q1562
                                            have q1599 := J1576.keepL t1556 (by decide) q1563
                                            have q1600 := J1576.keep t1552 (by decide) q1565
                                            have q1601 := J1576.keep t1552 (by decide) q1566
                                            have q1602 := J1576.keep t1552 (by decide) q1567
                                            have q1603 := J1576.keep t1552 (by decide) q1568
                                            have q1604 := J1576.keep t1552 (by decide) q1569
                                            have q1605 := J1576.keep t1551 (by decide) q1570
                                            have z1606 := J1576.keepL (I1519.up t1523) (by decide) z1545
                                            refine mv_vret d_TrustDesk_join_57 rfl ?_
                                            refine mv_goto (tgt := 100) d_TrustDesk_carryOut_73 (by decide) ?_
                                            refine mv_vret d_TrustDesk_carryOut_100 rfl ?_
                                            refine mv_iload_n d_TrustDesk_settle_63 rfl rfl ?_
                                            exact mv_iret d_TrustDesk_settle_64 rfl (by first | rfl | decide) ⟨_, I1577, _, rfl, Or.inr ⟨(v31).toNatClampNeg, (v835).toNatClampNeg, a72, a876, e1532, e1521, s1536, s1525, s1548, v1571, h1543, g73, g877, j1542, j1531, q1533, q1522, z1541, z1530, h1582, h1546, z1606, j1583, K1589, K1590⟩⟩
                                  · refine mv_iconst (v := 5) d_TrustDesk_failureOf_85 (by decide) ?_
                                    refine mv_goto (tgt := 90) d_TrustDesk_failureOf_86 (by decide) ?_
                                    refine mv_iret d_TrustDesk_failureOf_90 rfl (by first | rfl | decide) ?_
                                    refine mv_istore_n (lv' := [(3, .int 5), (2, .ref a19), (0, .ref o0), (1, .int x1)]) d_TrustDesk_settle_35 rfl (by decide) rfl ?_
                                    refine mv_aload_n d_TrustDesk_settle_36 rfl rfl ?_
                                    refine mv_iload_n d_TrustDesk_settle_37 rfl rfl ?_
                                    refine tr_putKM tm_okF I1109 t1117 (k := 6) rfl ⟨_, rfl⟩ (Or.inl (by decide)) d_TrustDesk_settle_38 p_TrustDesk_318_11 rfl rfl (fun M1607 I1608 q1609 K1610 K1610M => ?_)
                                    have K1611 : ∀ (a o : Nat) (w : Value), T0 a = some (3, 3, o) → tm_at M0 a 0 2 w → tm_at M1607 a 0 2 w := fun a o w h q => K1610 _ 0 2 _ rfl (K1118 a o w h q)
                                    have K1612 : ∀ (a : Nat) (w : Value), T0 a = some (0, 6, 0) → tm_at M0 a 6 8 w → tm_at M1607 a 6 8 w := fun a w h q => K1610 _ 6 8 _ rfl (K1119 a w h q)
                                    refine mv_aload_n d_TrustDesk_settle_41 rfl rfl ?_
                                    refine mv_iload_n d_TrustDesk_settle_42 rfl rfl ?_
                                    refine mv_if_ne_t (tgt := 50) d_TrustDesk_settle_43 (by decide) (by decide) ?_
                                    refine mv_iconst (v := 2) d_TrustDesk_settle_50 (by decide) ?_
                                    refine tr_putKM tm_okF I1608 t1117 (k := 5) rfl ⟨_, rfl⟩ (Or.inl (by decide)) d_TrustDesk_settle_51 p_TrustDesk_284_11 rfl rfl (fun M1613 I1614 q1615 K1616 K1616M => ?_)
                                    have K1617 : ∀ (a o : Nat) (w : Value), T0 a = some (3, 3, o) → tm_at M0 a 0 2 w → tm_at M1613 a 0 2 w := fun a o w h q => K1616 _ 0 2 _ rfl (K1611 a o w h q)
                                    have K1618 : ∀ (a : Nat) (w : Value), T0 a = some (0, 6, 0) → tm_at M0 a 6 8 w → tm_at M1613 a 6 8 w := fun a w h q => K1616 _ 6 8 _ rfl (K1612 a w h q)
                                    refine mv_iload_n d_TrustDesk_settle_54 rfl rfl ?_
                                    refine mv_if_ne_t (tgt := 63) d_TrustDesk_settle_55 (by decide) (by decide) ?_
                                    refine mv_iload_n d_TrustDesk_settle_63 rfl rfl ?_
                                    exact mv_iret d_TrustDesk_settle_64 rfl (by first | rfl | decide) ⟨_, I1614, _, rfl, Or.inl ⟨K1617, K1618⟩⟩
                                · refine mv_iconst (v := 4) d_TrustDesk_failureOf_76 (by decide) ?_
                                  refine mv_iret d_TrustDesk_failureOf_77 rfl (by first | rfl | decide) ?_
                                  refine mv_istore_n (lv' := [(3, .int 4), (2, .ref a19), (0, .ref o0), (1, .int x1)]) d_TrustDesk_settle_35 rfl (by decide) rfl ?_
                                  refine mv_aload_n d_TrustDesk_settle_36 rfl rfl ?_
                                  refine mv_iload_n d_TrustDesk_settle_37 rfl rfl ?_
                                  refine tr_putKM tm_okF I1109 t1117 (k := 6) rfl ⟨_, rfl⟩ (Or.inl (by decide)) d_TrustDesk_settle_38 p_TrustDesk_318_11 rfl rfl (fun M1619 I1620 q1621 K1622 K1622M => ?_)
                                  have K1623 : ∀ (a o : Nat) (w : Value), T0 a = some (3, 3, o) → tm_at M0 a 0 2 w → tm_at M1619 a 0 2 w := fun a o w h q => K1622 _ 0 2 _ rfl (K1118 a o w h q)
                                  have K1624 : ∀ (a : Nat) (w : Value), T0 a = some (0, 6, 0) → tm_at M0 a 6 8 w → tm_at M1619 a 6 8 w := fun a w h q => K1622 _ 6 8 _ rfl (K1119 a w h q)
                                  refine mv_aload_n d_TrustDesk_settle_41 rfl rfl ?_
                                  refine mv_iload_n d_TrustDesk_settle_42 rfl rfl ?_
                                  refine mv_if_ne_t (tgt := 50) d_TrustDesk_settle_43 (by decide) (by decide) ?_
                                  refine mv_iconst (v := 2) d_TrustDesk_settle_50 (by decide) ?_
                                  refine tr_putKM tm_okF I1620 t1117 (k := 5) rfl ⟨_, rfl⟩ (Or.inl (by decide)) d_TrustDesk_settle_51 p_TrustDesk_284_11 rfl rfl (fun M1625 I1626 q1627 K1628 K1628M => ?_)
                                  have K1629 : ∀ (a o : Nat) (w : Value), T0 a = some (3, 3, o) → tm_at M0 a 0 2 w → tm_at M1625 a 0 2 w := fun a o w h q => K1628 _ 0 2 _ rfl (K1623 a o w h q)
                                  have K1630 : ∀ (a : Nat) (w : Value), T0 a = some (0, 6, 0) → tm_at M0 a 6 8 w → tm_at M1625 a 6 8 w := fun a w h q => K1628 _ 6 8 _ rfl (K1624 a w h q)
                                  refine mv_iload_n d_TrustDesk_settle_54 rfl rfl ?_
                                  refine mv_if_ne_t (tgt := 63) d_TrustDesk_settle_55 (by decide) (by decide) ?_
                                  refine mv_iload_n d_TrustDesk_settle_63 rfl rfl ?_
                                  exact mv_iret d_TrustDesk_settle_64 rfl (by first | rfl | decide) ⟨_, I1626, _, rfl, Or.inl ⟨K1629, K1630⟩⟩
                              · refine mv_iconst (v := 3) d_TrustDesk_failureOf_65 (by decide) ?_
                                refine mv_iret d_TrustDesk_failureOf_66 rfl (by first | rfl | decide) ?_
                                refine mv_istore_n (lv' := [(3, .int 3), (2, .ref a19), (0, .ref o0), (1, .int x1)]) d_TrustDesk_settle_35 rfl (by decide) rfl ?_
                                refine mv_aload_n d_TrustDesk_settle_36 rfl rfl ?_
                                refine mv_iload_n d_TrustDesk_settle_37 rfl rfl ?_
                                refine tr_putKM tm_okF I1081 t1087 (k := 6) rfl ⟨_, rfl⟩ (Or.inl (by decide)) d_TrustDesk_settle_38 p_TrustDesk_318_11 rfl rfl (fun M1631 I1632 q1633 K1634 K1634M => ?_)
                                have K1635 : ∀ (a o : Nat) (w : Value), T0 a = some (3, 3, o) → tm_at M0 a 0 2 w → tm_at M1631 a 0 2 w := fun a o w h q => K1634 _ 0 2 _ rfl (K1088 a o w h q)
                                have K1636 : ∀ (a : Nat) (w : Value), T0 a = some (0, 6, 0) → tm_at M0 a 6 8 w → tm_at M1631 a 6 8 w := fun a w h q => K1634 _ 6 8 _ rfl (K1089 a w h q)
                                refine mv_aload_n d_TrustDesk_settle_41 rfl rfl ?_
                                refine mv_iload_n d_TrustDesk_settle_42 rfl rfl ?_
                                refine mv_if_ne_t (tgt := 50) d_TrustDesk_settle_43 (by decide) (by decide) ?_
                                refine mv_iconst (v := 2) d_TrustDesk_settle_50 (by decide) ?_
                                refine tr_putKM tm_okF I1632 t1087 (k := 5) rfl ⟨_, rfl⟩ (Or.inl (by decide)) d_TrustDesk_settle_51 p_TrustDesk_284_11 rfl rfl (fun M1637 I1638 q1639 K1640 K1640M => ?_)
                                have K1641 : ∀ (a o : Nat) (w : Value), T0 a = some (3, 3, o) → tm_at M0 a 0 2 w → tm_at M1637 a 0 2 w := fun a o w h q => K1640 _ 0 2 _ rfl (K1635 a o w h q)
                                have K1642 : ∀ (a : Nat) (w : Value), T0 a = some (0, 6, 0) → tm_at M0 a 6 8 w → tm_at M1637 a 6 8 w := fun a w h q => K1640 _ 6 8 _ rfl (K1636 a w h q)
                                refine mv_iload_n d_TrustDesk_settle_54 rfl rfl ?_
                                refine mv_if_ne_t (tgt := 63) d_TrustDesk_settle_55 (by decide) (by decide) ?_
                                refine mv_iload_n d_TrustDesk_settle_63 rfl rfl ?_
                                exact mv_iret d_TrustDesk_settle_64 rfl (by first | rfl | decide) ⟨_, I1638, _, rfl, Or.inl ⟨K1641, K1642⟩⟩
                            · refine mv_iconst (v := 2) d_TrustDesk_failureOf_46 (by decide) ?_
                              refine mv_iret d_TrustDesk_failureOf_47 rfl (by first | rfl | decide) ?_
                              refine mv_istore_n (lv' := [(3, .int 2), (2, .ref a19), (0, .ref o0), (1, .int x1)]) d_TrustDesk_settle_35 rfl (by decide) rfl ?_
                              refine mv_aload_n d_TrustDesk_settle_36 rfl rfl ?_
                              refine mv_iload_n d_TrustDesk_settle_37 rfl rfl ?_
                              refine tr_putKM tm_okF I998 t1006 (k := 6) rfl ⟨_, rfl⟩ (Or.inl (by decide)) d_TrustDesk_settle_38 p_TrustDesk_318_11 rfl rfl (fun M1643 I1644 q1645 K1646 K1646M => ?_)
                              have K1647 : ∀ (a o : Nat) (w : Value), T0 a = some (3, 3, o) → tm_at M0 a 0 2 w → tm_at M1643 a 0 2 w := fun a o w h q => K1646 _ 0 2 _ rfl (K1007 a o w h q)
                              have K1648 : ∀ (a : Nat) (w : Value), T0 a = some (0, 6, 0) → tm_at M0 a 6 8 w → tm_at M1643 a 6 8 w := fun a w h q => K1646 _ 6 8 _ rfl (K1008 a w h q)
                              refine mv_aload_n d_TrustDesk_settle_41 rfl rfl ?_
                              refine mv_iload_n d_TrustDesk_settle_42 rfl rfl ?_
                              refine mv_if_ne_t (tgt := 50) d_TrustDesk_settle_43 (by decide) (by decide) ?_
                              refine mv_iconst (v := 2) d_TrustDesk_settle_50 (by decide) ?_
                              refine tr_putKM tm_okF I1644 t1006 (k := 5) rfl ⟨_, rfl⟩ (Or.inl (by decide)) d_TrustDesk_settle_51 p_TrustDesk_284_11 rfl rfl (fun M1649 I1650 q1651 K1652 K1652M => ?_)
                              have K1653 : ∀ (a o : Nat) (w : Value), T0 a = some (3, 3, o) → tm_at M0 a 0 2 w → tm_at M1649 a 0 2 w := fun a o w h q => K1652 _ 0 2 _ rfl (K1647 a o w h q)
                              have K1654 : ∀ (a : Nat) (w : Value), T0 a = some (0, 6, 0) → tm_at M0 a 6 8 w → tm_at M1649 a 6 8 w := fun a w h q => K1652 _ 6 8 _ rfl (K1648 a w h q)
                              refine mv_iload_n d_TrustDesk_settle_54 rfl rfl ?_
                              refine mv_if_ne_t (tgt := 63) d_TrustDesk_settle_55 (by decide) (by decide) ?_
                              refine mv_iload_n d_TrustDesk_settle_63 rfl rfl ?_
                              exact mv_iret d_TrustDesk_settle_64 rfl (by first | rfl | decide) ⟨_, I1650, _, rfl, Or.inl ⟨K1653, K1654⟩⟩
                        · refine mv_iconst (v := 1) d_Fund_isJoined_8 (by decide) ?_
                          refine mv_goto (tgt := 13) d_Fund_isJoined_9 (by decide) ?_
                          refine mv_iret d_Fund_isJoined_13 rfl (by decide) ?_
                          refine mv_if_eq_f (tgt := 18) d_TrustDesk_canJoin_13 (by decide) (by decide) ?_
                          refine mv_iconst (v := 0) d_TrustDesk_canJoin_16 (by decide) ?_
                          refine mv_iret d_TrustDesk_canJoin_17 rfl (by decide) ?_
                          refine mv_iret d_TrustDesk_canBe_66 rfl (by decide) ?_
                          refine mv_if_ne_f (tgt := 24) d_TrustDesk_failureOf_19 (by decide) (by decide) ?_
                          refine mv_iconst (v := 1) d_TrustDesk_failureOf_22 (by decide) ?_
                          refine mv_iret d_TrustDesk_failureOf_23 rfl (by first | rfl | decide) ?_
                          refine mv_istore_n (lv' := [(3, .int 1), (2, .ref a19), (0, .ref o0), (1, .int x1)]) d_TrustDesk_settle_35 rfl (by decide) rfl ?_
                          refine mv_aload_n d_TrustDesk_settle_36 rfl rfl ?_
                          refine mv_iload_n d_TrustDesk_settle_37 rfl rfl ?_
                          refine tr_putKM tm_okF I0 t_a19 (k := 6) rfl ⟨_, rfl⟩ (Or.inl (by decide)) d_TrustDesk_settle_38 p_TrustDesk_318_11 rfl rfl (fun M1655 I1656 q1657 K1658 K1658M => ?_)
                          have K1659 : ∀ (a o : Nat) (w : Value), T0 a = some (3, 3, o) → tm_at M0 a 0 2 w → tm_at M1655 a 0 2 w := fun a o w h q => K1658 _ 0 2 _ rfl (K0L a o w h q)
                          have K1660 : ∀ (a : Nat) (w : Value), T0 a = some (0, 6, 0) → tm_at M0 a 6 8 w → tm_at M1655 a 6 8 w := fun a w h q => K1658 _ 6 8 _ rfl (K0J a w h q)
                          refine mv_aload_n d_TrustDesk_settle_41 rfl rfl ?_
                          refine mv_iload_n d_TrustDesk_settle_42 rfl rfl ?_
                          refine mv_if_ne_t (tgt := 50) d_TrustDesk_settle_43 (by decide) (by decide) ?_
                          refine mv_iconst (v := 2) d_TrustDesk_settle_50 (by decide) ?_
                          refine tr_putKM tm_okF I1656 t_a19 (k := 5) rfl ⟨_, rfl⟩ (Or.inl (by decide)) d_TrustDesk_settle_51 p_TrustDesk_284_11 rfl rfl (fun M1661 I1662 q1663 K1664 K1664M => ?_)
                          have K1665 : ∀ (a o : Nat) (w : Value), T0 a = some (3, 3, o) → tm_at M0 a 0 2 w → tm_at M1661 a 0 2 w := fun a o w h q => K1664 _ 0 2 _ rfl (K1659 a o w h q)
                          have K1666 : ∀ (a : Nat) (w : Value), T0 a = some (0, 6, 0) → tm_at M0 a 6 8 w → tm_at M1661 a 6 8 w := fun a w h q => K1664 _ 6 8 _ rfl (K1660 a w h q)
                          refine mv_iload_n d_TrustDesk_settle_54 rfl rfl ?_
                          refine mv_if_ne_t (tgt := 63) d_TrustDesk_settle_55 (by decide) (by decide) ?_
                          refine mv_iload_n d_TrustDesk_settle_63 rfl rfl ?_
                          exact mv_iret d_TrustDesk_settle_64 rfl (by first | rfl | decide) ⟨_, I1662, _, rfl, Or.inl ⟨K1665, K1666⟩⟩
                · refine mv_tableIn (tgt := 67) (off := 54) d_TrustDesk_canBe_13 (by omega) (by omega) (by rw [b83]; rfl) (by decide) ?_
                  refine mv_aload_n d_TrustDesk_canBe_67 rfl rfl ?_
                  obtain ⟨v1668, q1667⟩ := tm_atI I0 t_z74 (k := 1) rfl
                  refine tr_getK q1667 d_TrustDesk_canBe_68 f_TrustDesk_356_6 ?_
                  refine mv_aload_n d_TrustDesk_canBe_71 rfl rfl ?_
                  obtain ⟨v1670, q1669⟩ := tm_atI I0 t_a19 (k := 2) rfl
                  refine tr_getK q1669 d_TrustDesk_canBe_72 f_TrustDesk_311_11 ?_
                  have := mz_hi v1668
                  have := mz_hi v1670
                  refine mv_icmp_ltZ (tgt := 82) (a := v1668.toInt) (b := v1670.toInt) d_TrustDesk_canBe_75 (by decide) rfl rfl (fun b1671 => ?_) (fun b1671 => ?_)
                  · refine mv_iconst (v := 0) d_TrustDesk_canBe_82 (by decide) ?_
                    refine mv_iret d_TrustDesk_canBe_83 rfl (by decide) ?_
                    refine mv_if_ne_f (tgt := 24) d_TrustDesk_failureOf_19 (by decide) (by decide) ?_
                    refine mv_iconst (v := 1) d_TrustDesk_failureOf_22 (by decide) ?_
                    refine mv_iret d_TrustDesk_failureOf_23 rfl (by first | rfl | decide) ?_
                    refine mv_istore_n (lv' := [(3, .int 1), (2, .ref a19), (0, .ref o0), (1, .int x1)]) d_TrustDesk_settle_35 rfl (by decide) rfl ?_
                    refine mv_aload_n d_TrustDesk_settle_36 rfl rfl ?_
                    refine mv_iload_n d_TrustDesk_settle_37 rfl rfl ?_
                    refine tr_putKM tm_okF I0 t_a19 (k := 6) rfl ⟨_, rfl⟩ (Or.inl (by decide)) d_TrustDesk_settle_38 p_TrustDesk_318_11 rfl rfl (fun M1672 I1673 q1674 K1675 K1675M => ?_)
                    have K1676 : ∀ (a o : Nat) (w : Value), T0 a = some (3, 3, o) → tm_at M0 a 0 2 w → tm_at M1672 a 0 2 w := fun a o w h q => K1675 _ 0 2 _ rfl (K0L a o w h q)
                    have K1677 : ∀ (a : Nat) (w : Value), T0 a = some (0, 6, 0) → tm_at M0 a 6 8 w → tm_at M1672 a 6 8 w := fun a w h q => K1675 _ 6 8 _ rfl (K0J a w h q)
                    refine mv_aload_n d_TrustDesk_settle_41 rfl rfl ?_
                    refine mv_iload_n d_TrustDesk_settle_42 rfl rfl ?_
                    refine mv_if_ne_t (tgt := 50) d_TrustDesk_settle_43 (by decide) (by decide) ?_
                    refine mv_iconst (v := 2) d_TrustDesk_settle_50 (by decide) ?_
                    refine tr_putKM tm_okF I1673 t_a19 (k := 5) rfl ⟨_, rfl⟩ (Or.inl (by decide)) d_TrustDesk_settle_51 p_TrustDesk_284_11 rfl rfl (fun M1678 I1679 q1680 K1681 K1681M => ?_)
                    have K1682 : ∀ (a o : Nat) (w : Value), T0 a = some (3, 3, o) → tm_at M0 a 0 2 w → tm_at M1678 a 0 2 w := fun a o w h q => K1681 _ 0 2 _ rfl (K1676 a o w h q)
                    have K1683 : ∀ (a : Nat) (w : Value), T0 a = some (0, 6, 0) → tm_at M0 a 6 8 w → tm_at M1678 a 6 8 w := fun a w h q => K1681 _ 6 8 _ rfl (K1677 a w h q)
                    refine mv_iload_n d_TrustDesk_settle_54 rfl rfl ?_
                    refine mv_if_ne_t (tgt := 63) d_TrustDesk_settle_55 (by decide) (by decide) ?_
                    refine mv_iload_n d_TrustDesk_settle_63 rfl rfl ?_
                    exact mv_iret d_TrustDesk_settle_64 rfl (by first | rfl | decide) ⟨_, I1679, _, rfl, Or.inl ⟨K1682, K1683⟩⟩
                  · refine mv_iconst (v := 1) d_TrustDesk_canBe_78 (by decide) ?_
                    refine mv_goto (tgt := 83) d_TrustDesk_canBe_79 (by decide) ?_
                    refine mv_iret d_TrustDesk_canBe_83 rfl (by decide) ?_
                    refine mv_if_ne_t (tgt := 24) d_TrustDesk_failureOf_19 (by decide) (by decide) ?_
                    refine mv_aload_n d_TrustDesk_failureOf_24 rfl rfl ?_
                    refine mv_aload_n d_TrustDesk_failureOf_25 rfl rfl ?_
                    refine tr_getK (k := 12) q24 d_TrustDesk_failureOf_26 f_TrustDesk_73_12 ?_
                    obtain ⟨_, b1690, -⟩ := I0.1 _ _ h_o0
                    refine mv_callV (kc' := 0) (ks' := 0) (As := [.int v25]) (st9 := [.int v25, .ref o0]) d_TrustDesk_failureOf_29 lV_TrustDesk_114 b1690 rfl (tc_TrustDesk_inForce (d := (d + 5)) (x9 := x9) (o0 := o0) (x1 := v25) h_o0 I0.start) rfl (Nat.le_of_ble_eq_true rfl) (Nat.le_of_ble_eq_true rfl) (Nat.le_of_ble_eq_true rfl) (hst := rfl) (fun b1684r M1685 n1686 b1684 => ?_)
                    obtain ⟨T1687, J1688, a1691, rfl, t_a1691⟩ := b1684
                    have I1689 := I0.call J1688 (tm_sub (by decide)) (Or.inl rfl)
                    have t1692 := J1688.up t_z74
                    have t1693 := J1688.up h_o0
                    have t1694 := J1688.up t_a19
                    have K1695 : ∀ (a o : Nat) (w : Value), T0 a = some (3, 3, o) → tm_at M0 a 0 2 w → tm_at M1685 a 0 2 w := fun a o w h q => J1688.keepL (I0.up h) (by decide) (K0L a o w h q)
                    have K1696 : ∀ (a : Nat) (w : Value), T0 a = some (0, 6, 0) → tm_at M0 a 6 8 w → tm_at M1685 a 6 8 w := fun a w h q => J1688.keep (I0.up h) (by decide) (K0J a w h q)
                    have q1697 := J1688.keep h_o0 (by decide) q_Lf
                    have t1698 := J1688.up h_Lf
                    have q1699 := J1688.keep h_o0 (by decide) q3
                    have t1700 := J1688.up t_a4
                    have q1701 := J1688.keepL t_a4 (by decide) q11
                    have q1702 := J1688.keep t_a19 (by decide) q21
                    have q1703 := J1688.keep h_o0 (by decide) q24
                    have q1704 := J1688.keep t_a19 (by decide) q26
                    have q1705 := J1688.keep t_a19 (by decide) q30
                    have q1706 := J1688.keepL h_Lf (by decide) q52
                    have q1707 := J1688.keep t_z74 (by decide) q78
                    have q1708 := J1688.keep t_a19 (by decide) q81
                    have q1709 := J1688.keep t_z74 (by decide) q1667
                    have q1710 := J1688.keep t_a19 (by decide) q1669
                    refine mv_astore_n (lv' := [(3, .ref a1691), (2, .ref a72), (0, .ref o0), (1, .ref a19)]) d_TrustDesk_failureOf_32 rfl (by decide) rfl ?_
                    refine mv_aload_n d_TrustDesk_failureOf_33 rfl rfl ?_
                    refine mv_aload_n d_TrustDesk_failureOf_34 rfl rfl ?_
                    refine tr_getK (k := 0) q1708 d_TrustDesk_failureOf_35 f_TrustDesk_308_11 ?_
                    refine mv_aload_n d_TrustDesk_failureOf_38 rfl rfl ?_
                    refine mv_aload_n d_TrustDesk_failureOf_39 rfl rfl ?_
                    obtain ⟨_, b1717, -⟩ := I1689.1 _ _ t1693
                    refine mv_callV (kc' := 0) (ks' := 0) (As := [.int v82, .ref a72, .ref a1691]) (st9 := [.ref a1691, .ref a72, .int v82, .ref o0]) d_TrustDesk_failureOf_40 lV_TrustDesk_329 b1717 rfl (tc_TrustDesk_isBarred (d := (d + 4)) (x9 := x9) (o0 := o0) (x1 := v82) (o2 := a72) (o3 := a1691) t1693 t1692 t_a1691 I1689.start) rfl (Nat.le_of_ble_eq_true rfl) (Nat.le_of_ble_eq_true rfl) (Nat.le_of_ble_eq_true rfl) (hst := rfl) (fun b1711r M1712 n1713 b1711 => ?_)
                    obtain ⟨T1714, J1715, v1718, rfl, b1719, b1720⟩ := b1711
                    have I1716 := I1689.call J1715 (tm_sub (by decide)) (Or.inl rfl)
                    have t1721 := J1715.up t_a1691
                    have t1722 := J1715.up t1692
                    have t1723 := J1715.up t1693
                    have t1724 := J1715.up t1694
                    have K1725 : ∀ (a o : Nat) (w : Value), T0 a = some (3, 3, o) → tm_at M0 a 0 2 w → tm_at M1712 a 0 2 w := fun a o w h q => J1715.keepL (I1689.up h) (by decide) (K1695 a o w h q)
                    have K1726 : ∀ (a : Nat) (w : Value), T0 a = some (0, 6, 0) → tm_at M0 a 6 8 w → tm_at M1712 a 6 8 w := fun a w h q => J1715.keep (I1689.up h) (by decide) (K1696 a w h q)
                    have q1727 := J1715.keep t1693 (by decide) q1697
                    have t1728 := J1715.up t1698
                    have q1729 := J1715.keep t1693 (by decide) q1699
                    have t1730 := J1715.up t1700
                    have q1731 := J1715.keepL t1700 (by decide) q1701
                    have q1732 := J1715.keep t1694 (by decide) q1702
                    have q1733 := J1715.keep t1693 (by decide) q1703
                    have q1734 := J1715.keep t1694 (by decide) q1704
                    have q1735 := J1715.keep t1694 (by decide) q1705
                    have q1736 := J1715.keepL t1698 (by decide) q1706
                    have q1737 := J1715.keep t1692 (by decide) q1707
                    have q1738 := J1715.keep t1694 (by decide) q1708
                    have q1739 := J1715.keep t1692 (by decide) q1709
                    have q1740 := J1715.keep t1694 (by decide) q1710
                    have := mz_hi v1718
                    refine mv_if_eqZ (tgt := 48) (a := v1718.toInt) d_TrustDesk_failureOf_43 (by decide) rfl (fun b1741 => ?_) (fun b1741 => ?_)
                    · refine mv_aload_n d_TrustDesk_failureOf_48 rfl rfl ?_
                      refine mv_aload_n d_TrustDesk_failureOf_49 rfl rfl ?_
                      refine mv_aload_n d_TrustDesk_failureOf_50 rfl rfl ?_
                      obtain ⟨_, b1748, -⟩ := I1716.1 _ _ t1723
                      refine mv_callV (kc' := 0) (ks' := 0) (As := [.ref a19, .ref a72]) (st9 := [.ref a72, .ref a19, .ref o0]) d_TrustDesk_failureOf_51 lV_TrustDesk_333 b1748 rfl (tc_TrustDesk_marksLeft (d := (d + 4)) (x9 := x9) (o0 := o0) (o1 := a19) (o2 := a72) t1723 t1724 t1722 I1716.start) rfl (Nat.le_of_ble_eq_true rfl) (Nat.le_of_ble_eq_true rfl) (Nat.le_of_ble_eq_true rfl) (hst := rfl) (fun b1742r M1743 n1744 b1742 => ?_)
                      obtain ⟨T1745, J1746, v1749, rfl⟩ := b1742
                      have I1747 := I1716.call J1746 (tm_sub (by decide)) (Or.inl rfl)
                      have t1750 := J1746.up t1721
                      have t1751 := J1746.up t1722
                      have t1752 := J1746.up t1723
                      have t1753 := J1746.up t1724
                      have K1754 : ∀ (a o : Nat) (w : Value), T0 a = some (3, 3, o) → tm_at M0 a 0 2 w → tm_at M1743 a 0 2 w := fun a o w h q => J1746.keepL (I1716.up h) (by decide) (K1725 a o w h q)
                      have K1755 : ∀ (a : Nat) (w : Value), T0 a = some (0, 6, 0) → tm_at M0 a 6 8 w → tm_at M1743 a 6 8 w := fun a w h q => J1746.keep (I1716.up h) (by decide) (K1726 a w h q)
                      have q1756 := J1746.keep t1723 (by decide) q1727
                      have t1757 := J1746.up t1728
                      have q1758 := J1746.keep t1723 (by decide) q1729
                      have t1759 := J1746.up t1730
                      have q1760 := J1746.keepL t1730 (by decide) q1731
                      have q1761 := J1746.keep t1724 (by decide) q1732
                      have q1762 := J1746.keep t1723 (by decide) q1733
                      have q1763 := J1746.keep t1724 (by decide) q1734
                      have q1764 := J1746.keep t1724 (by decide) q1735
                      have q1765 := J1746.keepL t1728 (by decide) q1736
                      have q1766 := J1746.keep t1722 (by decide) q1737
                      have q1767 := J1746.keep t1724 (by decide) q1738
                      have q1768 := J1746.keep t1722 (by decide) q1739
                      have q1769 := J1746.keep t1724 (by decide) q1740
                      refine mv_callS (kc' := 0) (ks' := 0) (As := [.int v1749]) (st9 := [.int v1749]) d_TrustDesk_failureOf_54 lS_TrustDesk_337 (tc_Integer_bitCount (d := (d + 8)) (x9 := x9) (x1 := v1749)  I1747.start) rfl (Nat.le_of_ble_eq_true rfl) (Nat.le_of_ble_eq_true rfl) (Nat.le_of_ble_eq_true rfl) (hst := rfl) (fun b1770r M1771 n1772 b1770 => ?_)
                      obtain ⟨T1773, J1774, v1776, rfl⟩ := b1770
                      have I1775 := I1747.call J1774 (tm_sub (by decide)) (Or.inl rfl)
                      have t1777 := J1774.up t1750
                      have t1778 := J1774.up t1751
                      have t1779 := J1774.up t1752
                      have t1780 := J1774.up t1753
                      have K1781 : ∀ (a o : Nat) (w : Value), T0 a = some (3, 3, o) → tm_at M0 a 0 2 w → tm_at M1771 a 0 2 w := fun a o w h q => J1774.keepL (I1747.up h) (by decide) (K1754 a o w h q)
                      have K1782 : ∀ (a : Nat) (w : Value), T0 a = some (0, 6, 0) → tm_at M0 a 6 8 w → tm_at M1771 a 6 8 w := fun a w h q => J1774.keep (I1747.up h) (by decide) (K1755 a w h q)
                      have q1783 := J1774.keep t1752 (by decide) q1756
                      have t1784 := J1774.up t1757
                      have q1785 := J1774.keep t1752 (by decide) q1758
                      have t1786 := J1774.up t1759
                      have q1787 := J1774.keepL t1759 (by decide) q1760
                      have q1788 := J1774.keep t1753 (by decide) q1761
                      have q1789 := J1774.keep t1752 (by decide) q1762
                      have q1790 := J1774.keep t1753 (by decide) q1763
                      have q1791 := J1774.keep t1753 (by decide) q1764
                      have q1792 := J1774.keepL t1757 (by decide) q1765
                      have q1793 := J1774.keep t1751 (by decide) q1766
                      have q1794 := J1774.keep t1753 (by decide) q1767
                      have q1795 := J1774.keep t1751 (by decide) q1768
                      have q1796 := J1774.keep t1753 (by decide) q1769
                      refine mv_aload_n d_TrustDesk_failureOf_57 rfl rfl ?_
                      refine mv_iconst (v := 1) d_TrustDesk_failureOf_58 (by decide) ?_
                      obtain ⟨_, b1803, -⟩ := I1775.1 _ _ t1777
                      refine mv_callV (kc' := 0) (ks' := 0) (As := [.int 1]) (st9 := [.int 1, .ref a1691, .int v1776]) d_TrustDesk_failureOf_59 lV_TrustDesk_118 b1803 rfl (tc_Act_rule (d := (d + 8)) (x9 := x9) (o0 := a1691) (x1 := 1) t1777 I1775.start) rfl (Nat.le_of_ble_eq_true rfl) (Nat.le_of_ble_eq_true rfl) (Nat.le_of_ble_eq_true rfl) (hst := rfl) (fun b1797r M1798 n1799 b1797 => ?_)
                      obtain ⟨T1800, J1801, v1804, rfl⟩ := b1797
                      have I1802 := I1775.call J1801 (tm_sub (by decide)) (Or.inl rfl)
                      have t1805 := J1801.up t1777
                      have t1806 := J1801.up t1778
                      have t1807 := J1801.up t1779
                      have t1808 := J1801.up t1780
                      have K1809 : ∀ (a o : Nat) (w : Value), T0 a = some (3, 3, o) → tm_at M0 a 0 2 w → tm_at M1798 a 0 2 w := fun a o w h q => J1801.keepL (I1775.up h) (by decide) (K1781 a o w h q)
                      have K1810 : ∀ (a : Nat) (w : Value), T0 a = some (0, 6, 0) → tm_at M0 a 6 8 w → tm_at M1798 a 6 8 w := fun a w h q => J1801.keep (I1775.up h) (by decide) (K1782 a w h q)
                      have q1811 := J1801.keep t1779 (by decide) q1783
                      have t1812 := J1801.up t1784
                      have q1813 := J1801.keep t1779 (by decide) q1785
                      have t1814 := J1801.up t1786
                      have q1815 := J1801.keepL t1786 (by decide) q1787
                      have q1816 := J1801.keep t1780 (by decide) q1788
                      have q1817 := J1801.keep t1779 (by decide) q1789
                      have q1818 := J1801.keep t1780 (by decide) q1790
                      have q1819 := J1801.keep t1780 (by decide) q1791
                      have q1820 := J1801.keepL t1784 (by decide) q1792
                      have q1821 := J1801.keep t1778 (by decide) q1793
                      have q1822 := J1801.keep t1780 (by decide) q1794
                      have q1823 := J1801.keep t1778 (by decide) q1795
                      have q1824 := J1801.keep t1780 (by decide) q1796
                      have := mz_hi v1776
                      have := mz_hi v1804
                      refine mv_icmp_geZ (tgt := 67) (a := v1776.toInt) (b := v1804.toInt) d_TrustDesk_failureOf_62 (by decide) rfl rfl (fun b1825 => ?_) (fun b1825 => ?_)
                      · refine mv_aload_n d_TrustDesk_failureOf_67 rfl rfl ?_
                        refine mv_aload_n d_TrustDesk_failureOf_68 rfl rfl ?_
                        refine mv_aload_n d_TrustDesk_failureOf_69 rfl rfl ?_
                        obtain ⟨_, b1832, -⟩ := I1802.1 _ _ t1807
                        refine mv_callV (kc' := 0) (ks' := 0) (As := [.ref a19, .ref a72]) (st9 := [.ref a72, .ref a19, .ref o0]) d_TrustDesk_failureOf_70 lV_TrustDesk_342 b1832 rfl (tc_TrustDesk_isCarried (d := (d + 4)) (x9 := x9) (o0 := o0) (o1 := a19) (o2 := a72) t1807 t1808 t1806 I1802.start) rfl (Nat.le_of_ble_eq_true rfl) (Nat.le_of_ble_eq_true rfl) (Nat.le_of_ble_eq_true rfl) (hst := rfl) (fun b1826r M1827 n1828 b1826 => ?_)
                        obtain ⟨T1829, J1830, v1833, rfl, b1834, b1835⟩ := b1826
                        have I1831 := I1802.call J1830 (tm_sub (by decide)) (Or.inl rfl)
                        have t1836 := J1830.up t1805
                        have t1837 := J1830.up t1806
                        have t1838 := J1830.up t1807
                        have t1839 := J1830.up t1808
                        have K1840 : ∀ (a o : Nat) (w : Value), T0 a = some (3, 3, o) → tm_at M0 a 0 2 w → tm_at M1827 a 0 2 w := fun a o w h q => J1830.keepL (I1802.up h) (by decide) (K1809 a o w h q)
                        have K1841 : ∀ (a : Nat) (w : Value), T0 a = some (0, 6, 0) → tm_at M0 a 6 8 w → tm_at M1827 a 6 8 w := fun a w h q => J1830.keep (I1802.up h) (by decide) (K1810 a w h q)
                        have q1842 := J1830.keep t1807 (by decide) q1811
                        have t1843 := J1830.up t1812
                        have q1844 := J1830.keep t1807 (by decide) q1813
                        have t1845 := J1830.up t1814
                        have q1846 := J1830.keepL t1814 (by decide) q1815
                        have q1847 := J1830.keep t1808 (by decide) q1816
                        have q1848 := J1830.keep t1807 (by decide) q1817
                        have q1849 := J1830.keep t1808 (by decide) q1818
                        have q1850 := J1830.keep t1808 (by decide) q1819
                        have q1851 := J1830.keepL t1812 (by decide) q1820
                        have q1852 := J1830.keep t1806 (by decide) q1821
                        have q1853 := J1830.keep t1808 (by decide) q1822
                        have q1854 := J1830.keep t1806 (by decide) q1823
                        have q1855 := J1830.keep t1808 (by decide) q1824
                        have := mz_hi v1833
                        refine mv_if_neZ (tgt := 78) (a := v1833.toInt) d_TrustDesk_failureOf_73 (by decide) rfl (fun b1856 => ?_) (fun b1856 => ?_)
                        · refine mv_aload_n d_TrustDesk_failureOf_78 rfl rfl ?_
                          obtain ⟨v1858, q1857⟩ := tm_atI I1831 t1839 (k := 7) rfl
                          refine tr_getK q1857 d_TrustDesk_failureOf_79 f_TrustDesk_345_11 ?_
                          have := mz_hi v1858
                          refine mv_if_leZ (tgt := 89) (a := v1858.toInt) d_TrustDesk_failureOf_82 (by decide) rfl (fun b1859 => ?_) (fun b1859 => ?_)
                          · refine mv_iconst (v := 0) d_TrustDesk_failureOf_89 (by decide) ?_
                            refine mv_iret d_TrustDesk_failureOf_90 rfl (by first | rfl | decide) ?_
                            refine mv_istore_n (lv' := [(3, .int 0), (2, .ref a19), (0, .ref o0), (1, .int x1)]) d_TrustDesk_settle_35 rfl (by decide) rfl ?_
                            refine mv_aload_n d_TrustDesk_settle_36 rfl rfl ?_
                            refine mv_iload_n d_TrustDesk_settle_37 rfl rfl ?_
                            refine tr_putKM tm_okF I1831 t1839 (k := 6) rfl ⟨_, rfl⟩ (Or.inl (by decide)) d_TrustDesk_settle_38 p_TrustDesk_318_11 rfl rfl (fun M1860 I1861 q1862 K1863 K1863M => ?_)
                            have K1864 : ∀ (a o : Nat) (w : Value), T0 a = some (3, 3, o) → tm_at M0 a 0 2 w → tm_at M1860 a 0 2 w := fun a o w h q => K1863 _ 0 2 _ rfl (K1840 a o w h q)
                            have K1865 : ∀ (a : Nat) (w : Value), T0 a = some (0, 6, 0) → tm_at M0 a 6 8 w → tm_at M1860 a 6 8 w := fun a w h q => K1863 _ 6 8 _ rfl (K1841 a w h q)
                            refine mv_aload_n d_TrustDesk_settle_41 rfl rfl ?_
                            refine mv_iload_n d_TrustDesk_settle_42 rfl rfl ?_
                            refine mv_if_ne_f (tgt := 50) d_TrustDesk_settle_43 (by decide) (by decide) ?_
                            refine mv_iconst (v := 1) d_TrustDesk_settle_46 (by decide) ?_
                            refine mv_goto (tgt := 51) d_TrustDesk_settle_47 (by decide) ?_
                            refine tr_putKM tm_okF I1861 t1839 (k := 5) rfl ⟨_, rfl⟩ (Or.inl (by decide)) d_TrustDesk_settle_51 p_TrustDesk_284_11 rfl rfl (fun M1866 I1867 q1868 K1869 K1869M => ?_)
                            have K1870 : ∀ (a o : Nat) (w : Value), T0 a = some (3, 3, o) → tm_at M0 a 0 2 w → tm_at M1866 a 0 2 w := fun a o w h q => K1869 _ 0 2 _ rfl (K1864 a o w h q)
                            have K1871 : ∀ (a : Nat) (w : Value), T0 a = some (0, 6, 0) → tm_at M0 a 6 8 w → tm_at M1866 a 6 8 w := fun a w h q => K1869 _ 6 8 _ rfl (K1865 a w h q)
                            refine mv_iload_n d_TrustDesk_settle_54 rfl rfl ?_
                            refine mv_if_ne_f (tgt := 63) d_TrustDesk_settle_55 (by decide) (by decide) ?_
                            refine mv_aload_n d_TrustDesk_settle_58 rfl rfl ?_
                            refine mv_aload_n d_TrustDesk_settle_59 rfl rfl ?_
                            obtain ⟨_, b1872, -⟩ := I1867.1 _ _ t1838
                            refine mv_callV (kc1 := 0) (ks1 := 0) (kc' := 0) (ks' := 0) (As := [.ref a19]) (st9 := [.ref a19, .ref o0]) d_TrustDesk_settle_60 lV_TrustDesk_321 b1872 rfl (mj_enter (by decide) (Nat.le_of_ble_eq_true rfl) ?_) rfl (Nat.le_of_ble_eq_true rfl) (Nat.le_of_ble_eq_true rfl) (Nat.le_of_ble_eq_true rfl) (hst := rfl) (fun _ _ _ h => h)
                            refine mv_aload_n d_TrustDesk_carryOut_0 rfl rfl ?_
                            refine mv_aload_n d_TrustDesk_carryOut_1 rfl rfl ?_
                            refine tr_getK (k := 1) (K1869 _ 11 1 _ rfl (K1863 _ 11 1 _ rfl q1850)) d_TrustDesk_carryOut_2 f_TrustDesk_302_11 ?_
                            obtain ⟨_, b1873, -⟩ := I1867.1 _ _ t1838
                            refine mv_callV (kc1 := 0) (ks1 := 0) (kc' := 0) (ks' := 0) (As := [.int v31]) (st9 := [.int v31, .ref o0]) d_TrustDesk_carryOut_5 lV_TrustDesk_257 b1873 rfl (mj_enter (by decide) (Nat.le_of_ble_eq_true rfl) ?_) rfl (Nat.le_of_ble_eq_true rfl) (Nat.le_of_ble_eq_true rfl) (Nat.le_of_ble_eq_true rfl) (hst := rfl) (fun _ _ _ h => h)
                            refine mv_iload_n d_TrustDesk_fundAt_0 rfl rfl ?_
                            have := mz_hi v31
                            refine mv_if_ltZ (tgt := 29) (a := v31.toInt) d_TrustDesk_fundAt_1 (by decide) rfl (fun b1874 => absurd b1874 (by omega)) (fun b1874 => ?_)
                            refine mv_iload_n d_TrustDesk_fundAt_4 rfl rfl ?_
                            refine mv_aload_n d_TrustDesk_fundAt_5 rfl rfl ?_
                            refine tr_getK (k := 6) (K1869 _ 12 6 _ rfl (K1863 _ 12 6 _ rfl q1842)) d_TrustDesk_fundAt_6 f_TrustDesk_53_12 ?_
                            obtain ⟨m1876, e1877, N1878, f1879, h1875⟩ := tm_lsn I1867 t1843 (K1869 _ 0 2 _ rfl (K1863 _ 0 2 _ rfl q1851))
                            refine mv_callV_s (kc' := 0) (ks' := 0) [] [.ref Lf, .int v31] d_TrustDesk_fundAt_9 lV_TrustDesk_97 h1875.1 rfl (tc_L_size (d := (d + 7)) h1875.1) rfl (Nat.le_of_ble_eq_true rfl) (Nat.le_of_ble_eq_true rfl) (Nat.le_of_ble_eq_true rfl) rfl ?_
                            have := mz_hi v31
                            have := mz_hi n51
                            refine mv_icmp_geZ (tgt := 29) (a := v31.toInt) (b := n51.toInt) d_TrustDesk_fundAt_12 (by decide) rfl rfl (fun b1880 => ?_) (fun b1880 => ?_)
                            · refine mv_null d_TrustDesk_fundAt_29 ?_
                              refine mv_aret (r := none) d_TrustDesk_fundAt_30 rfl (by first | exact Or.inl ⟨_, rfl⟩ | exact Or.inr ⟨_, rfl⟩) ?_
                              refine mv_astore_nN (lv' := [(2, .null), (0, .ref o0), (1, .ref a19)]) d_TrustDesk_carryOut_8 rfl (by decide) rfl ?_
                              refine mv_aload_nN d_TrustDesk_carryOut_9 rfl rfl ?_
                              refine mv_ifnonnullN d_TrustDesk_carryOut_10 ?_
                              refine mv_vret d_TrustDesk_carryOut_13 rfl ?_
                              refine mv_iload_n d_TrustDesk_settle_63 rfl rfl ?_
                              exact mv_iret d_TrustDesk_settle_64 rfl (by first | rfl | decide) ⟨_, I1867, _, rfl, Or.inl ⟨K1870, K1871⟩⟩
                            · refine mv_aload_n d_TrustDesk_fundAt_15 rfl rfl ?_
                              refine tr_getK (k := 6) (K1869 _ 12 6 _ rfl (K1863 _ 12 6 _ rfl q1842)) d_TrustDesk_fundAt_16 f_TrustDesk_53_12 ?_
                              refine mv_iload_n d_TrustDesk_fundAt_19 rfl rfl ?_
                              obtain ⟨m1882, e1883, N1884, f1885, h1881⟩ := tm_lsn I1867 t1843 (K1869 _ 0 2 _ rfl (K1863 _ 0 2 _ rfl q1851))
                              have u1886e := (tm_el (i := v31) h1881 (by omega) (by omega)).1
                              have u1886i := (tm_el (i := v31) h1881 (by omega) (by omega)).2.1
                              obtain ⟨_, u1886f, u1886t⟩ := tm_ge.el h1881 (I1867.keepG I0.1 h_Lf (by decide) g73)
                              have t_z1887 : T1829 a72 = some (0, 6, 0) := u1886t
                              refine mv_callV_s (kc' := 0) (ks' := 0) [.int v31] [.int v31, .ref Lf] d_TrustDesk_fundAt_20 lV_TrustDesk_158 h1881.1 rfl (tc_L_get (d := (d + 5)) h1881.1 u1886e (by omega) (by omega) u1886i u1886f) rfl (Nat.le_of_ble_eq_true rfl) (Nat.le_of_ble_eq_true rfl) (Nat.le_of_ble_eq_true rfl) rfl ?_
                              obtain ⟨_, b1888, -⟩ := I1867.1 _ _ t_z1887
                              refine mv_castS (T9 := kF_Fund) (N := 15) d_TrustDesk_fundAt_23 (mj_in1 (List.mem_of_getElem? (i := 655) (by decide +kernel)) rfl) b1888 rfl ?_
                              refine mv_goto (tgt := 30) d_TrustDesk_fundAt_26 (by decide) ?_
                              refine mv_aret (r := (some a72)) d_TrustDesk_fundAt_30 rfl (by first | exact Or.inl ⟨_, rfl⟩ | exact Or.inr ⟨_, rfl⟩) ?_
                              refine mv_astore_n (lv' := [(2, .ref a72), (0, .ref o0), (1, .ref a19)]) d_TrustDesk_carryOut_8 rfl (by decide) rfl ?_
                              refine mv_aload_n d_TrustDesk_carryOut_9 rfl rfl ?_
                              refine mv_ifnonnull (tgt := 14) d_TrustDesk_carryOut_10 (by decide) ?_
                              refine mv_aload_n d_TrustDesk_carryOut_14 rfl rfl ?_
                              refine tr_getK (k := 0) (K1869 _ 11 0 _ rfl (K1863 _ 11 0 _ rfl q1853)) d_TrustDesk_carryOut_15 f_TrustDesk_308_11 ?_
                              refine mv_tableIn (tgt := 76) (off := 58) d_TrustDesk_carryOut_18 (by omega) (by omega) (by rw [b83]; rfl) (by decide) ?_
                              refine mv_aload_n d_TrustDesk_carryOut_76 rfl rfl ?_
                              refine mv_aload_n d_TrustDesk_carryOut_77 rfl rfl ?_
                              refine mv_aload_n d_TrustDesk_carryOut_78 rfl rfl ?_
                              refine tr_getK (k := 2) (K1869 _ 11 2 _ rfl (K1863 _ 11 2 _ rfl q1855)) d_TrustDesk_carryOut_79 f_TrustDesk_311_11 ?_
                              obtain ⟨_, b1895, -⟩ := I1867.1 _ _ t1838
                              refine mv_callV (kc' := 0) (ks' := 0) (As := [.ref a72, .int v1670]) (st9 := [.int v1670, .ref a72, .ref o0]) d_TrustDesk_carryOut_82 lV_TrustDesk_399 b1895 rfl (tc_TrustDesk_sell (d := (d + 4)) (x9 := x9) (o0 := o0) (o1 := a72) (x2 := v1670) t1838 t_z1887 I1867.start) rfl (Nat.le_of_ble_eq_true rfl) (Nat.le_of_ble_eq_true rfl) (Nat.le_of_ble_eq_true rfl) (hst := rfl) (fun b1889r M1890 n1891 b1889 => ?_)
                              obtain ⟨T1892, J1893, rfl⟩ := b1889
                              have I1894 := I1867.call J1893 (tm_sub (by decide)) (Or.inl rfl)
                              have t1896 := J1893.up t_z1887
                              have t1897 := J1893.up t1838
                              have t1898 := J1893.up t1839
                              have K1899 : ∀ (a o : Nat) (w : Value), T0 a = some (3, 3, o) → tm_at M0 a 0 2 w → tm_at M1890 a 0 2 w := fun a o w h q => J1893.keepL (I1867.up h) (by decide) (K1870 a o w h q)
                              have K1900 : ∀ (a : Nat) (w : Value), T0 a = some (0, 6, 0) → tm_at M0 a 6 8 w → tm_at M1890 a 6 8 w := fun a w h q => J1893.keep (I1867.up h) (by decide) (K1871 a w h q)
                              have q1901 := J1893.keep t1838 (by decide) (K1869 _ 12 6 _ rfl (K1863 _ 12 6 _ rfl q1842))
                              have t1902 := J1893.up t1843
                              have q1903 := J1893.keep t1838 (by decide) (K1869 _ 12 8 _ rfl (K1863 _ 12 8 _ rfl q1844))
                              have t1904 := J1893.up t1845
                              have q1905 := J1893.keepL t1845 (by decide) (K1869 _ 0 2 _ rfl (K1863 _ 0 2 _ rfl q1846))
                              have q1906 := J1893.keep t1838 (by decide) (K1869 _ 12 12 _ rfl (K1863 _ 12 12 _ rfl q1848))
                              have q1907 := J1893.keep t1839 (by decide) (K1869 _ 11 4 _ rfl (K1863 _ 11 4 _ rfl q1849))
                              have q1908 := J1893.keep t1839 (by decide) (K1869 _ 11 1 _ rfl (K1863 _ 11 1 _ rfl q1850))
                              have q1909 := J1893.keepL t1843 (by decide) (K1869 _ 0 2 _ rfl (K1863 _ 0 2 _ rfl q1851))
                              have q1910 := J1893.keep t1837 (by decide) (K1869 _ 6 8 _ rfl (K1863 _ 6 8 _ rfl q1852))
                              have q1911 := J1893.keep t1839 (by decide) (K1869 _ 11 0 _ rfl (K1863 _ 11 0 _ rfl q1853))
                              have q1912 := J1893.keep t1839 (by decide) (K1869 _ 11 2 _ rfl (K1863 _ 11 2 _ rfl q1855))
                              have q1913 := J1893.keep t1839 (by decide) (K1869 _ 11 7 _ rfl (K1863 _ 11 7 _ rfl q1857))
                              have q1914 := J1893.keep t1839 (by decide) (K1869 _ 11 6 _ rfl q1862)
                              have q1915 := J1893.keep t1839 (by decide) q1868
                              refine mv_goto (tgt := 100) d_TrustDesk_carryOut_85 (by decide) ?_
                              refine mv_vret d_TrustDesk_carryOut_100 rfl ?_
                              refine mv_iload_n d_TrustDesk_settle_63 rfl rfl ?_
                              exact mv_iret d_TrustDesk_settle_64 rfl (by first | rfl | decide) ⟨_, I1894, _, rfl, Or.inl ⟨K1899, K1900⟩⟩
                          · refine mv_iconst (v := 5) d_TrustDesk_failureOf_85 (by decide) ?_
                            refine mv_goto (tgt := 90) d_TrustDesk_failureOf_86 (by decide) ?_
                            refine mv_iret d_TrustDesk_failureOf_90 rfl (by first | rfl | decide) ?_
                            refine mv_istore_n (lv' := [(3, .int 5), (2, .ref a19), (0, .ref o0), (1, .int x1)]) d_TrustDesk_settle_35 rfl (by decide) rfl ?_
                            refine mv_aload_n d_TrustDesk_settle_36 rfl rfl ?_
                            refine mv_iload_n d_TrustDesk_settle_37 rfl rfl ?_
                            refine tr_putKM tm_okF I1831 t1839 (k := 6) rfl ⟨_, rfl⟩ (Or.inl (by decide)) d_TrustDesk_settle_38 p_TrustDesk_318_11 rfl rfl (fun M1916 I1917 q1918 K1919 K1919M => ?_)
                            have K1920 : ∀ (a o : Nat) (w : Value), T0 a = some (3, 3, o) → tm_at M0 a 0 2 w → tm_at M1916 a 0 2 w := fun a o w h q => K1919 _ 0 2 _ rfl (K1840 a o w h q)
                            have K1921 : ∀ (a : Nat) (w : Value), T0 a = some (0, 6, 0) → tm_at M0 a 6 8 w → tm_at M1916 a 6 8 w := fun a w h q => K1919 _ 6 8 _ rfl (K1841 a w h q)
                            refine mv_aload_n d_TrustDesk_settle_41 rfl rfl ?_
                            refine mv_iload_n d_TrustDesk_settle_42 rfl rfl ?_
                            refine mv_if_ne_t (tgt := 50) d_TrustDesk_settle_43 (by decide) (by decide) ?_
                            refine mv_iconst (v := 2) d_TrustDesk_settle_50 (by decide) ?_
                            refine tr_putKM tm_okF I1917 t1839 (k := 5) rfl ⟨_, rfl⟩ (Or.inl (by decide)) d_TrustDesk_settle_51 p_TrustDesk_284_11 rfl rfl (fun M1922 I1923 q1924 K1925 K1925M => ?_)
                            have K1926 : ∀ (a o : Nat) (w : Value), T0 a = some (3, 3, o) → tm_at M0 a 0 2 w → tm_at M1922 a 0 2 w := fun a o w h q => K1925 _ 0 2 _ rfl (K1920 a o w h q)
                            have K1927 : ∀ (a : Nat) (w : Value), T0 a = some (0, 6, 0) → tm_at M0 a 6 8 w → tm_at M1922 a 6 8 w := fun a w h q => K1925 _ 6 8 _ rfl (K1921 a w h q)
                            refine mv_iload_n d_TrustDesk_settle_54 rfl rfl ?_
                            refine mv_if_ne_t (tgt := 63) d_TrustDesk_settle_55 (by decide) (by decide) ?_
                            refine mv_iload_n d_TrustDesk_settle_63 rfl rfl ?_
                            exact mv_iret d_TrustDesk_settle_64 rfl (by first | rfl | decide) ⟨_, I1923, _, rfl, Or.inl ⟨K1926, K1927⟩⟩
                        · refine mv_iconst (v := 4) d_TrustDesk_failureOf_76 (by decide) ?_
                          refine mv_iret d_TrustDesk_failureOf_77 rfl (by first | rfl | decide) ?_
                          refine mv_istore_n (lv' := [(3, .int 4), (2, .ref a19), (0, .ref o0), (1, .int x1)]) d_TrustDesk_settle_35 rfl (by decide) rfl ?_
                          refine mv_aload_n d_TrustDesk_settle_36 rfl rfl ?_
                          refine mv_iload_n d_TrustDesk_settle_37 rfl rfl ?_
                          refine tr_putKM tm_okF I1831 t1839 (k := 6) rfl ⟨_, rfl⟩ (Or.inl (by decide)) d_TrustDesk_settle_38 p_TrustDesk_318_11 rfl rfl (fun M1928 I1929 q1930 K1931 K1931M => ?_)
                          have K1932 : ∀ (a o : Nat) (w : Value), T0 a = some (3, 3, o) → tm_at M0 a 0 2 w → tm_at M1928 a 0 2 w := fun a o w h q => K1931 _ 0 2 _ rfl (K1840 a o w h q)
                          have K1933 : ∀ (a : Nat) (w : Value), T0 a = some (0, 6, 0) → tm_at M0 a 6 8 w → tm_at M1928 a 6 8 w := fun a w h q => K1931 _ 6 8 _ rfl (K1841 a w h q)
                          refine mv_aload_n d_TrustDesk_settle_41 rfl rfl ?_
                          refine mv_iload_n d_TrustDesk_settle_42 rfl rfl ?_
                          refine mv_if_ne_t (tgt := 50) d_TrustDesk_settle_43 (by decide) (by decide) ?_
                          refine mv_iconst (v := 2) d_TrustDesk_settle_50 (by decide) ?_
                          refine tr_putKM tm_okF I1929 t1839 (k := 5) rfl ⟨_, rfl⟩ (Or.inl (by decide)) d_TrustDesk_settle_51 p_TrustDesk_284_11 rfl rfl (fun M1934 I1935 q1936 K1937 K1937M => ?_)
                          have K1938 : ∀ (a o : Nat) (w : Value), T0 a = some (3, 3, o) → tm_at M0 a 0 2 w → tm_at M1934 a 0 2 w := fun a o w h q => K1937 _ 0 2 _ rfl (K1932 a o w h q)
                          have K1939 : ∀ (a : Nat) (w : Value), T0 a = some (0, 6, 0) → tm_at M0 a 6 8 w → tm_at M1934 a 6 8 w := fun a w h q => K1937 _ 6 8 _ rfl (K1933 a w h q)
                          refine mv_iload_n d_TrustDesk_settle_54 rfl rfl ?_
                          refine mv_if_ne_t (tgt := 63) d_TrustDesk_settle_55 (by decide) (by decide) ?_
                          refine mv_iload_n d_TrustDesk_settle_63 rfl rfl ?_
                          exact mv_iret d_TrustDesk_settle_64 rfl (by first | rfl | decide) ⟨_, I1935, _, rfl, Or.inl ⟨K1938, K1939⟩⟩
                      · refine mv_iconst (v := 3) d_TrustDesk_failureOf_65 (by decide) ?_
                        refine mv_iret d_TrustDesk_failureOf_66 rfl (by first | rfl | decide) ?_
                        refine mv_istore_n (lv' := [(3, .int 3), (2, .ref a19), (0, .ref o0), (1, .int x1)]) d_TrustDesk_settle_35 rfl (by decide) rfl ?_
                        refine mv_aload_n d_TrustDesk_settle_36 rfl rfl ?_
                        refine mv_iload_n d_TrustDesk_settle_37 rfl rfl ?_
                        refine tr_putKM tm_okF I1802 t1808 (k := 6) rfl ⟨_, rfl⟩ (Or.inl (by decide)) d_TrustDesk_settle_38 p_TrustDesk_318_11 rfl rfl (fun M1940 I1941 q1942 K1943 K1943M => ?_)
                        have K1944 : ∀ (a o : Nat) (w : Value), T0 a = some (3, 3, o) → tm_at M0 a 0 2 w → tm_at M1940 a 0 2 w := fun a o w h q => K1943 _ 0 2 _ rfl (K1809 a o w h q)
                        have K1945 : ∀ (a : Nat) (w : Value), T0 a = some (0, 6, 0) → tm_at M0 a 6 8 w → tm_at M1940 a 6 8 w := fun a w h q => K1943 _ 6 8 _ rfl (K1810 a w h q)
                        refine mv_aload_n d_TrustDesk_settle_41 rfl rfl ?_
                        refine mv_iload_n d_TrustDesk_settle_42 rfl rfl ?_
                        refine mv_if_ne_t (tgt := 50) d_TrustDesk_settle_43 (by decide) (by decide) ?_
                        refine mv_iconst (v := 2) d_TrustDesk_settle_50 (by decide) ?_
                        refine tr_putKM tm_okF I1941 t1808 (k := 5) rfl ⟨_, rfl⟩ (Or.inl (by decide)) d_TrustDesk_settle_51 p_TrustDesk_284_11 rfl rfl (fun M1946 I1947 q1948 K1949 K1949M => ?_)
                        have K1950 : ∀ (a o : Nat) (w : Value), T0 a = some (3, 3, o) → tm_at M0 a 0 2 w → tm_at M1946 a 0 2 w := fun a o w h q => K1949 _ 0 2 _ rfl (K1944 a o w h q)
                        have K1951 : ∀ (a : Nat) (w : Value), T0 a = some (0, 6, 0) → tm_at M0 a 6 8 w → tm_at M1946 a 6 8 w := fun a w h q => K1949 _ 6 8 _ rfl (K1945 a w h q)
                        refine mv_iload_n d_TrustDesk_settle_54 rfl rfl ?_
                        refine mv_if_ne_t (tgt := 63) d_TrustDesk_settle_55 (by decide) (by decide) ?_
                        refine mv_iload_n d_TrustDesk_settle_63 rfl rfl ?_
                        exact mv_iret d_TrustDesk_settle_64 rfl (by first | rfl | decide) ⟨_, I1947, _, rfl, Or.inl ⟨K1950, K1951⟩⟩
                    · refine mv_iconst (v := 2) d_TrustDesk_failureOf_46 (by decide) ?_
                      refine mv_iret d_TrustDesk_failureOf_47 rfl (by first | rfl | decide) ?_
                      refine mv_istore_n (lv' := [(3, .int 2), (2, .ref a19), (0, .ref o0), (1, .int x1)]) d_TrustDesk_settle_35 rfl (by decide) rfl ?_
                      refine mv_aload_n d_TrustDesk_settle_36 rfl rfl ?_
                      refine mv_iload_n d_TrustDesk_settle_37 rfl rfl ?_
                      refine tr_putKM tm_okF I1716 t1724 (k := 6) rfl ⟨_, rfl⟩ (Or.inl (by decide)) d_TrustDesk_settle_38 p_TrustDesk_318_11 rfl rfl (fun M1952 I1953 q1954 K1955 K1955M => ?_)
                      have K1956 : ∀ (a o : Nat) (w : Value), T0 a = some (3, 3, o) → tm_at M0 a 0 2 w → tm_at M1952 a 0 2 w := fun a o w h q => K1955 _ 0 2 _ rfl (K1725 a o w h q)
                      have K1957 : ∀ (a : Nat) (w : Value), T0 a = some (0, 6, 0) → tm_at M0 a 6 8 w → tm_at M1952 a 6 8 w := fun a w h q => K1955 _ 6 8 _ rfl (K1726 a w h q)
                      refine mv_aload_n d_TrustDesk_settle_41 rfl rfl ?_
                      refine mv_iload_n d_TrustDesk_settle_42 rfl rfl ?_
                      refine mv_if_ne_t (tgt := 50) d_TrustDesk_settle_43 (by decide) (by decide) ?_
                      refine mv_iconst (v := 2) d_TrustDesk_settle_50 (by decide) ?_
                      refine tr_putKM tm_okF I1953 t1724 (k := 5) rfl ⟨_, rfl⟩ (Or.inl (by decide)) d_TrustDesk_settle_51 p_TrustDesk_284_11 rfl rfl (fun M1958 I1959 q1960 K1961 K1961M => ?_)
                      have K1962 : ∀ (a o : Nat) (w : Value), T0 a = some (3, 3, o) → tm_at M0 a 0 2 w → tm_at M1958 a 0 2 w := fun a o w h q => K1961 _ 0 2 _ rfl (K1956 a o w h q)
                      have K1963 : ∀ (a : Nat) (w : Value), T0 a = some (0, 6, 0) → tm_at M0 a 6 8 w → tm_at M1958 a 6 8 w := fun a w h q => K1961 _ 6 8 _ rfl (K1957 a w h q)
                      refine mv_iload_n d_TrustDesk_settle_54 rfl rfl ?_
                      refine mv_if_ne_t (tgt := 63) d_TrustDesk_settle_55 (by decide) (by decide) ?_
                      refine mv_iload_n d_TrustDesk_settle_63 rfl rfl ?_
                      exact mv_iret d_TrustDesk_settle_64 rfl (by first | rfl | decide) ⟨_, I1959, _, rfl, Or.inl ⟨K1962, K1963⟩⟩
              · refine mv_iconst (v := 1) d_Fund_isJoined_8 (by decide) ?_
                refine mv_goto (tgt := 13) d_Fund_isJoined_9 (by decide) ?_
                refine mv_iret d_Fund_isJoined_13 rfl (by decide) ?_
                refine mv_if_eq_f (tgt := 9) d_TrustDesk_canBe_4 (by decide) (by decide) ?_
                refine mv_iconst (v := 0) d_TrustDesk_canBe_7 (by decide) ?_
                refine mv_iret d_TrustDesk_canBe_8 rfl (by decide) ?_
                refine mv_if_ne_f (tgt := 24) d_TrustDesk_failureOf_19 (by decide) (by decide) ?_
                refine mv_iconst (v := 1) d_TrustDesk_failureOf_22 (by decide) ?_
                refine mv_iret d_TrustDesk_failureOf_23 rfl (by first | rfl | decide) ?_
                refine mv_istore_n (lv' := [(3, .int 1), (2, .ref a19), (0, .ref o0), (1, .int x1)]) d_TrustDesk_settle_35 rfl (by decide) rfl ?_
                refine mv_aload_n d_TrustDesk_settle_36 rfl rfl ?_
                refine mv_iload_n d_TrustDesk_settle_37 rfl rfl ?_
                refine tr_putKM tm_okF I0 t_a19 (k := 6) rfl ⟨_, rfl⟩ (Or.inl (by decide)) d_TrustDesk_settle_38 p_TrustDesk_318_11 rfl rfl (fun M1964 I1965 q1966 K1967 K1967M => ?_)
                have K1968 : ∀ (a o : Nat) (w : Value), T0 a = some (3, 3, o) → tm_at M0 a 0 2 w → tm_at M1964 a 0 2 w := fun a o w h q => K1967 _ 0 2 _ rfl (K0L a o w h q)
                have K1969 : ∀ (a : Nat) (w : Value), T0 a = some (0, 6, 0) → tm_at M0 a 6 8 w → tm_at M1964 a 6 8 w := fun a w h q => K1967 _ 6 8 _ rfl (K0J a w h q)
                refine mv_aload_n d_TrustDesk_settle_41 rfl rfl ?_
                refine mv_iload_n d_TrustDesk_settle_42 rfl rfl ?_
                refine mv_if_ne_t (tgt := 50) d_TrustDesk_settle_43 (by decide) (by decide) ?_
                refine mv_iconst (v := 2) d_TrustDesk_settle_50 (by decide) ?_
                refine tr_putKM tm_okF I1965 t_a19 (k := 5) rfl ⟨_, rfl⟩ (Or.inl (by decide)) d_TrustDesk_settle_51 p_TrustDesk_284_11 rfl rfl (fun M1970 I1971 q1972 K1973 K1973M => ?_)
                have K1974 : ∀ (a o : Nat) (w : Value), T0 a = some (3, 3, o) → tm_at M0 a 0 2 w → tm_at M1970 a 0 2 w := fun a o w h q => K1973 _ 0 2 _ rfl (K1968 a o w h q)
                have K1975 : ∀ (a : Nat) (w : Value), T0 a = some (0, 6, 0) → tm_at M0 a 6 8 w → tm_at M1970 a 6 8 w := fun a w h q => K1973 _ 6 8 _ rfl (K1969 a w h q)
                refine mv_iload_n d_TrustDesk_settle_54 rfl rfl ?_
                refine mv_if_ne_t (tgt := 63) d_TrustDesk_settle_55 (by decide) (by decide) ?_
                refine mv_iload_n d_TrustDesk_settle_63 rfl rfl ?_
                exact mv_iret d_TrustDesk_settle_64 rfl (by first | rfl | decide) ⟨_, I1971, _, rfl, Or.inl ⟨K1974, K1975⟩⟩
        · refine mv_iconst (v := (-1)) d_TrustDesk_settle_28 (by decide) ?_
          exact mv_iret d_TrustDesk_settle_29 rfl (by first | rfl | decide) ⟨_, I0, _, rfl, Or.inl ⟨K0L, K0J⟩⟩
def w_Fund_init_x : List Nat := [662]
theorem tc_Fund_init_x {g : mj_G} {l : Launch} {d : Nat} {T0 : tm_H} {M0 : mj_M} {n0 : Nat} {o0 : Nat} {x1 : Int32} {x2 : Int32} {x3 : Int32} (h_o0 : T0 o0 = some (5, 6, 0)) (m_o0 : M0 o0 = some (.inr (6, [.int 0, .int 0, .int 0, .long 0, .int 0, .int 0, .int 0, .int 0, .int 0, .int 0, .long 0, .null, .null, .null, .null])))  (I0 : tm_I tm_FT (tm_in w_Fund_init_x) o0 T0 M0 n0 T0 M0 n0) : mj_Met g l kY_Fund_init (d + 4) [.ref o0, .int x1, .int x2, .int x3] M0 n0 4 216 (tm_Q tm_FT (tm_in w_Fund_init_x) o0 T0 M0 n0 (fun r T M => r = none ∧ ∃ c0 c1 c2 c3 : Nat, M o0 = some (.inr (6, [.int x1, .int x2, .int x3, .long 0, .int 0, .int 7, .int 1, .int 0, .int (-1), .int 0, .long 0, .ref c0, .ref c1, .ref c2, .ref c3])) ∧ T c0 = some (3, 3, o0) ∧ T c1 = some (1, 5296, 12) ∧ T c2 = some (1, 5306, 100) ∧ T c3 = some (1, 5314, 101) ∧ tm_at M c0 0 2 (.int 0))) := by
  refine mj_enter (by decide) (Nat.le_of_ble_eq_true rfl) ?_
  refine mv_aload_n d_Fund_init_0 rfl rfl ?_
  refine mv_oinit d_Fund_init_1 (mj_in1 (List.mem_of_getElem? (i := 660) (by decide +kernel)) rfl) (Nat.le_of_ble_eq_true rfl) ?_
  refine mv_aload_n d_Fund_init_4 rfl rfl ?_
  refine mv_bipush (v := 7) d_Fund_init_5 (by decide) ?_
  refine tr_putX (k := 5) (fs' := [.int 0, .int 0, .int 0, .long 0, .int 0, .int 7, .int 0, .int 0, .int 0, .int 0, .long 0, .null, .null, .null, .null]) tm_okF I0 h_o0 (Or.inl rfl) m_o0 d_Fund_init_7 p_Fund_9_6 (Nat.le_of_ble_eq_true rfl) rfl rfl rfl (fun M1 I2 m3 K4 => ?_)
  refine mv_aload_n d_Fund_init_10 rfl rfl ?_
  refine mv_iconst (v := 1) d_Fund_init_11 (by decide) ?_
  refine tr_putX (k := 6) (fs' := [.int 0, .int 0, .int 0, .long 0, .int 0, .int 7, .int 1, .int 0, .int 0, .int 0, .long 0, .null, .null, .null, .null]) tm_okF I2 h_o0 (Or.inl rfl) m3 d_Fund_init_12 p_Fund_15_6 (Nat.le_of_ble_eq_true rfl) rfl rfl rfl (fun M5 I6 m7 K8 => ?_)
  refine mv_aload_n d_Fund_init_15 rfl rfl ?_
  refine mv_iconst (v := (-1)) d_Fund_init_16 (by decide) ?_
  refine tr_putX (k := 8) (fs' := [.int 0, .int 0, .int 0, .long 0, .int 0, .int 7, .int 1, .int 0, .int (-1), .int 0, .long 0, .null, .null, .null, .null]) tm_okF I6 h_o0 (Or.inl rfl) m7 d_Fund_init_17 p_Fund_18_6 (Nat.le_of_ble_eq_true rfl) rfl rfl rfl (fun M9 I10 m11 K12 => ?_)
  refine mv_aload_n d_Fund_init_20 rfl rfl ?_
  refine tr_new (kc' := 3) (ks' := 213) tm_okF I10 d_Fund_init_21 n_Fund_21 (Nat.le_of_ble_eq_true rfl) (Nat.le_of_ble_eq_true rfl) (fun T13 M14 I15 t_x16 m17 h18 u19 K20 => ?_)
  have m21 := (K20 _ _ h_o0).trans m11
  have t22 := u19 _ _ h_o0
  have h23 := tm_ne I10 h_o0
  refine mv_dup d_Fund_init_24 rfl ?_
  refine mv_callI (kc' := 3) (ks' := 213) (As := []) (st9 := [.ref n0, .ref n0, .ref o0]) d_Fund_init_25 lI_Fund_23 (tc_ArrayList_init (d := d) (o0 := n0) t_x16 m17 I15.start) rfl (Nat.le_of_ble_eq_true rfl) (Nat.le_of_ble_eq_true rfl) (Nat.le_of_ble_eq_true rfl) (hst := rfl) (fun b24r M25 n26 b24 => ?_)
  obtain ⟨T27, J28, rfl, m30⟩ := b24
  have I29 := I15.call J28 (tm_sub (by decide)) (Or.inr h18)
  have m31 := (J28.keepX t22 h23).trans m21
  have t32 := J28.up t_x16
  have t33 := J28.up t22
  obtain ⟨T34, I35, t_x36, u37⟩ := I29.sealL (o := o0) (c := 3) tm_okF t32 h18 m30
  have t38 := u37 _ _ t33 h23
  have q39 : tm_at M25 n0 0 2 (.int 0) := ⟨_, m30, rfl⟩
  refine tr_putXF (k := 11) (fs' := [.int 0, .int 0, .int 0, .long 0, .int 0, .int 7, .int 1, .int 0, .int (-1), .int 0, .long 0, .ref n0, .null, .null, .null]) tm_okF I35 t38 (Or.inl rfl) m31 d_Fund_init_28 p_Fund_24_6 rfl (Nat.le_of_ble_eq_true rfl) rfl rfl rfl (fun M40 I41 m42 K43 => ?_)
  have q44 := tm_at.eq (K43 _ (tm_dif t_x36 t38 rfl)) q39
  refine mv_aload_n d_Fund_init_31 rfl rfl ?_
  refine mv_bipush (v := 12) d_Fund_init_32 (by decide) ?_
  refine tr_newi (E := 5296) (N := 12) (kc' := 2) (ks' := 201) tm_okF I41 (by decide) d_Fund_init_34 (by decide) (by decide) (by decide) (Nat.le_of_ble_eq_true rfl) (Nat.le_of_ble_eq_true rfl) (fun T45 M46 I47 t_x48 u49 K50 => ?_)
  have q51 := tm_at.eq (K50 _ _ t_x36) q44
  have t52 := u49 _ _ t_x36
  have m53 := (K50 _ _ t38).trans m42
  have t54 := u49 _ _ t38
  refine tr_putXF (k := 12) (fs' := [.int 0, .int 0, .int 0, .long 0, .int 0, .int 7, .int 1, .int 0, .int (-1), .int 0, .long 0, .ref n0, .ref n26, .null, .null]) tm_okF I47 t54 (Or.inl rfl) m53 d_Fund_init_36 p_Fund_28_6 rfl (Nat.le_of_ble_eq_true rfl) rfl rfl rfl (fun M55 I56 m57 K58 => ?_)
  have q59 := tm_at.eq (K58 _ (tm_dif t52 t54 rfl)) q51
  refine mv_aload_n d_Fund_init_39 rfl rfl ?_
  refine mv_bipush (v := 100) d_Fund_init_40 (by decide) ?_
  refine tr_newz (E := 5306) (N := 100) (kc' := 1) (ks' := 101) tm_okF I56 (by decide) d_Fund_init_42 (by decide) (by decide) (by decide) (Nat.le_of_ble_eq_true rfl) (Nat.le_of_ble_eq_true rfl) (fun T60 M61 I62 t_x63 u64 K65 => ?_)
  have q66 := tm_at.eq (K65 _ _ t52) q59
  have t67 := u64 _ _ t52
  have m68 := (K65 _ _ t54).trans m57
  have t69 := u64 _ _ t54
  have t70 := u64 _ _ t_x48
  refine tr_putXF (k := 13) (fs' := [.int 0, .int 0, .int 0, .long 0, .int 0, .int 7, .int 1, .int 0, .int (-1), .int 0, .long 0, .ref n0, .ref n26, .ref (n26 + 1), .null]) tm_okF I62 t69 (Or.inl rfl) m68 d_Fund_init_44 p_Fund_32_6 rfl (Nat.le_of_ble_eq_true rfl) rfl rfl rfl (fun M71 I72 m73 K74 => ?_)
  have q75 := tm_at.eq (K74 _ (tm_dif t67 t69 rfl)) q66
  refine mv_aload_n d_Fund_init_47 rfl rfl ?_
  refine mv_bipush (v := 101) d_Fund_init_48 (by decide) ?_
  refine tr_newz (E := 5314) (N := 101) (kc' := 0) (ks' := 0) tm_okF I72 (by decide) d_Fund_init_50 (by decide) (by decide) (by decide) (Nat.le_of_ble_eq_true rfl) (Nat.le_of_ble_eq_true rfl) (fun T76 M77 I78 t_x79 u80 K81 => ?_)
  have q82 := tm_at.eq (K81 _ _ t67) q75
  have t83 := u80 _ _ t67
  have m84 := (K81 _ _ t69).trans m73
  have t85 := u80 _ _ t69
  have t86 := u80 _ _ t70
  have t87 := u80 _ _ t_x63
  refine tr_putXF (k := 14) (fs' := [.int 0, .int 0, .int 0, .long 0, .int 0, .int 7, .int 1, .int 0, .int (-1), .int 0, .long 0, .ref n0, .ref n26, .ref (n26 + 1), .ref ((n26 + 1) + 1)]) tm_okF I78 t85 (Or.inl rfl) m84 d_Fund_init_52 p_Fund_36_6 rfl (Nat.le_of_ble_eq_true rfl) rfl rfl rfl (fun M88 I89 m90 K91 => ?_)
  have q92 := tm_at.eq (K91 _ (tm_dif t83 t85 rfl)) q82
  refine mv_aload_n d_Fund_init_55 rfl rfl ?_
  refine mv_iload_n d_Fund_init_56 rfl rfl ?_
  refine tr_putXF (k := 0) (fs' := [.int x1, .int 0, .int 0, .long 0, .int 0, .int 7, .int 1, .int 0, .int (-1), .int 0, .long 0, .ref n0, .ref n26, .ref (n26 + 1), .ref ((n26 + 1) + 1)]) tm_okF I89 t85 (Or.inl rfl) m90 d_Fund_init_57 p_Fund_39_6 rfl (Nat.le_of_ble_eq_true rfl) rfl rfl rfl (fun M93 I94 m95 K96 => ?_)
  have q97 := tm_at.eq (K96 _ (tm_dif t83 t85 rfl)) q92
  refine mv_aload_n d_Fund_init_60 rfl rfl ?_
  refine mv_iload_n d_Fund_init_61 rfl rfl ?_
  refine tr_putX (k := 1) (fs' := [.int x1, .int x2, .int 0, .long 0, .int 0, .int 7, .int 1, .int 0, .int (-1), .int 0, .long 0, .ref n0, .ref n26, .ref (n26 + 1), .ref ((n26 + 1) + 1)]) tm_okF I94 t85 (Or.inl rfl) m95 d_Fund_init_62 p_Fund_42_6 (Nat.le_of_ble_eq_true rfl) rfl rfl rfl (fun M98 I99 m100 K101 => ?_)
  have q102 := tm_at.eq (K101 _ (tm_dif t83 t85 rfl)) q97
  refine mv_aload_n d_Fund_init_65 rfl rfl ?_
  refine mv_iload_n d_Fund_init_66 rfl rfl ?_
  refine tr_putX (k := 2) (fs' := [.int x1, .int x2, .int x3, .long 0, .int 0, .int 7, .int 1, .int 0, .int (-1), .int 0, .long 0, .ref n0, .ref n26, .ref (n26 + 1), .ref ((n26 + 1) + 1)]) tm_okF I99 t85 (Or.inl rfl) m100 d_Fund_init_67 p_Fund_45_6 (Nat.le_of_ble_eq_true rfl) rfl rfl rfl (fun M103 I104 m105 K106 => ?_)
  have q107 := tm_at.eq (K106 _ (tm_dif t83 t85 rfl)) q102
  refine mv_iload_n d_Fund_init_70 rfl rfl ?_
  have := mz_hi x1
  refine mv_if_ltZ (tgt := 88) (a := x1.toInt) d_Fund_init_71 (by decide) rfl (fun b108 => ?_) (fun b108 => ?_)
  · exact mv_vret d_Fund_init_88 rfl ⟨_, I104, rfl, _, _, _, _, m105, t83, t86, t87, t_x79, q107⟩
  · refine mv_iload_n d_Fund_init_74 rfl rfl ?_
    refine mv_bipush (v := 12) d_Fund_init_75 (by decide) ?_
    have := mz_hi x1
    refine mv_icmp_geZ (tgt := 88) (a := x1.toInt) (b := 12) d_Fund_init_77 (by decide) rfl (by decide) (fun b109 => ?_) (fun b109 => ?_)
    · exact mv_vret d_Fund_init_88 rfl ⟨_, I104, rfl, _, _, _, _, m105, t83, t86, t87, t_x79, q107⟩
    · refine mv_aload_n d_Fund_init_80 rfl rfl ?_
      refine mv_get d_Fund_init_81 f_Fund_28_6 m105 rfl ?_
      refine mv_iload_n d_Fund_init_84 rfl rfl ?_
      refine mv_ldc d_Fund_init_85 k_Fund_48 ?_
      refine tr_iastX tm_okF I104 t86 (by decide) (Or.inl (by decide)) d_Fund_init_87 (vp_in_iff.mpr (by omega)) (fun M110 I111 K112 K113 => ?_)
      have m114 := (K113 _ (tm_dif t85 t86 rfl)).trans m105
      exact mv_vret d_Fund_init_88 rfl ⟨_, I111, rfl, _, _, _, _, m114, t83, t86, t87, t_x79, (K112 _ 0 2 _ q107)⟩
def w_TrustDesk_days_x : List Nat := [301, 302, 303, 603, 610, 1001, 1003, 1004, 1050, 1052, 1210, 1212, 1259]
theorem tc_TrustDesk_days_x {g : mj_G} {l : Launch} {d : Nat} {T0 : tm_H} {M0 : mj_M} {n0 x9 : Nat} {o0 : Nat} {x1 : Int32} (h_o0 : T0 o0 = some (0, 12, 0)) {t : Int32} (yt : tm_at M0 o0 12 12 (.int t)) (I0 : tm_I tm_FT (tm_in w_TrustDesk_days_x) x9 T0 M0 n0 T0 M0 n0) : mj_Met g l kY_TrustDesk_days (d + 7) [.ref o0, .int x1] M0 n0 0 0 (tm_Q tm_FT (tm_in w_TrustDesk_days_x) x9 T0 M0 n0 (fun r _ M => ∃ v : Int32, r = some (.int v) ∧ ((v = -1 ∧ (x1.toInt < 1 ∨ 720 < x1.toInt ∨ 36000 < (t + x1).toInt) ∧ tm_at M o0 12 12 (.int t)) ∨ (v = t + x1 ∧ ¬ (x1.toInt < 1 ∨ 720 < x1.toInt ∨ 36000 < (t + x1).toInt) ∧ tm_at M o0 12 12 (.int (t + x1)))))) := by
  refine mj_enter (by decide) (Nat.le_of_ble_eq_true rfl) ?_
  refine mv_iload_n d_TrustDesk_days_0 rfl rfl ?_
  refine mv_iconst (v := 1) d_TrustDesk_days_1 (by decide) ?_
  have := mz_hi x1
  refine mv_icmp_ltZ (tgt := 23) (a := x1.toInt) (b := 1) d_TrustDesk_days_2 (by decide) rfl (by decide) (fun b1 => ?_) (fun b1 => ?_)
  · refine mv_iconst (v := (-1)) d_TrustDesk_days_23 (by decide) ?_
    exact mv_iret d_TrustDesk_days_24 rfl (by first | rfl | decide) ⟨_, I0, _, rfl, Or.inl ⟨rfl, by omega, yt⟩⟩
  · refine mv_iload_n d_TrustDesk_days_5 rfl rfl ?_
    refine mv_sipush (v := 720) d_TrustDesk_days_6 (by decide) ?_
    have := mz_hi x1
    refine mv_icmp_gtZ (tgt := 23) (a := x1.toInt) (b := 720) d_TrustDesk_days_9 (by decide) rfl (by decide) (fun b2 => ?_) (fun b2 => ?_)
    · refine mv_iconst (v := (-1)) d_TrustDesk_days_23 (by decide) ?_
      exact mv_iret d_TrustDesk_days_24 rfl (by first | rfl | decide) ⟨_, I0, _, rfl, Or.inl ⟨rfl, by omega, yt⟩⟩
    · refine mv_aload_n d_TrustDesk_days_12 rfl rfl ?_
      refine tr_getK (k := 12) yt d_TrustDesk_days_13 f_TrustDesk_73_12 ?_
      refine mv_iload_n d_TrustDesk_days_16 rfl rfl ?_
      refine mv_iadd d_TrustDesk_days_17 ?_
      refine mv_ldc d_TrustDesk_days_18 k_TrustDesk_147 ?_
      have := mz_hi (t + x1)
      refine mv_icmp_leZ (tgt := 25) (a := (t + x1).toInt) (b := 36000) d_TrustDesk_days_20 (by decide) rfl (by decide) (fun b3 => ?_) (fun b3 => ?_)
      · refine mv_aload_n d_TrustDesk_days_25 rfl rfl ?_
        refine tr_getK (k := 12) yt d_TrustDesk_days_26 f_TrustDesk_73_12 ?_
        refine mv_iload_n d_TrustDesk_days_29 rfl rfl ?_
        refine mv_iadd d_TrustDesk_days_30 ?_
        refine mv_istore_n (lv' := [(2, .int (t + x1)), (0, .ref o0), (1, .int x1)]) d_TrustDesk_days_31 rfl (by decide) rfl ?_
        refine mv_aload_n d_TrustDesk_days_32 rfl rfl ?_
        refine tr_getK (k := 12) yt d_TrustDesk_days_33 f_TrustDesk_73_12 ?_
        refine mv_sipush (v := 360) d_TrustDesk_days_36 (by decide) ?_
        refine mv_idiv d_TrustDesk_days_39 (by decide) ?_
        refine mv_istore_n (lv' := [(3, .int (t / 360)), (2, .int (t + x1)), (0, .ref o0), (1, .int x1)]) d_TrustDesk_days_40 rfl (by decide) rfl ?_
        have L41_4 : ∀ (k : Nat) (i3_4 : Int32) (T_4 : tm_H) (M_4 : mj_M) (n_4 : Nat), tm_I tm_FT (tm_in w_TrustDesk_days_x) x9 T0 M0 n0 T_4 M_4 n_4 → T_4 o0 = some (0, 12, 0) → tm_at M_4 o0 12 12 (.int t) → 2147483647 - i3_4.toInt < (k : Int) → mj_V g l kY_TrustDesk_days (d + 7) 41 [(3, .int i3_4), (2, .int (t + x1)), (0, .ref o0), (1, .int x1)] [] M_4 n_4 0 0 (tm_Q tm_FT (tm_in w_TrustDesk_days_x) x9 T0 M0 n0 (fun r _ M => ∃ v : Int32, r = some (.int v) ∧ ((v = -1 ∧ (x1.toInt < 1 ∨ 720 < x1.toInt ∨ 36000 < (t + x1).toInt) ∧ tm_at M o0 12 12 (.int t)) ∨ (v = t + x1 ∧ ¬ (x1.toInt < 1 ∨ 720 < x1.toInt ∨ 36000 < (t + x1).toInt) ∧ tm_at M o0 12 12 (.int (t + x1)))))) := by
          intro k4
          induction k4 with
          | zero =>
            intro i3_4 T_4 M_4 n_4 I_4 h_q0_4 kp0_4 hk4
            have := mz_hi i3_4
            omega
          | succ k4 ih4 =>
            intro i3_4 T_4 M_4 n_4 I_4 h_q0_4 kp0_4 hk4
            refine mv_iload_n d_TrustDesk_days_41 rfl rfl ?_
            refine mv_iload_n d_TrustDesk_days_42 rfl rfl ?_
            refine mv_sipush (v := 360) d_TrustDesk_days_43 (by decide) ?_
            refine mv_idiv d_TrustDesk_days_46 (by decide) ?_
            have := mz_hi i3_4
            have := mz_hi ((t + x1) / 360)
            refine mv_icmp_geZ (tgt := 61) (a := i3_4.toInt) (b := ((t + x1) / 360).toInt) d_TrustDesk_days_47 (by decide) rfl rfl (fun b5 => ?_) (fun b5 => ?_)
            · refine mv_aload_n d_TrustDesk_days_61 rfl rfl ?_
              refine mv_iload_n d_TrustDesk_days_62 rfl rfl ?_
              refine tr_putK tm_okF I_4 h_q0_4 (k := 12) rfl ⟨_, rfl⟩ (Or.inl (by decide)) d_TrustDesk_days_63 p_TrustDesk_73_12 rfl rfl (fun M6 I7 q8 K9 => ?_)
              refine mv_aload_n d_TrustDesk_days_66 rfl rfl ?_
              refine tr_getK (k := 12) q8 d_TrustDesk_days_67 f_TrustDesk_73_12 ?_
              exact mv_iret d_TrustDesk_days_70 rfl (by first | rfl | decide) ⟨_, I7, _, rfl, Or.inr ⟨rfl, by omega, q8⟩⟩
            · refine mv_aload_n d_TrustDesk_days_50 rfl rfl ?_
              refine mv_iload_n d_TrustDesk_days_51 rfl rfl ?_
              obtain ⟨_, b16, -⟩ := I_4.1 _ _ h_q0_4
              refine mv_callV (kc' := 0) (ks' := 0) (As := [.int i3_4]) (st9 := [.int i3_4, .ref o0]) d_TrustDesk_days_52 lV_TrustDesk_148 b16 rfl (tc_TrustDesk_closeYear (d := d) (x9 := x9) (o0 := o0) (x1 := i3_4) h_q0_4 I_4.start) rfl (Nat.le_of_ble_eq_true rfl) (Nat.le_of_ble_eq_true rfl) (Nat.le_of_ble_eq_true rfl) (hst := rfl) (fun b10r M11 n12 b10 => ?_)
              obtain ⟨T13, J14, rfl⟩ := b10
              have I15 := I_4.call J14 (tm_sub (by decide)) (Or.inl rfl)
              have t17 := J14.up h_q0_4
              have q18 := J14.keep h_q0_4 (by decide) kp0_4
              refine mv_iinc (v := (i3_4 + 1)) (lv' := [(3, .int (i3_4 + 1)), (2, .int (t + x1)), (0, .ref o0), (1, .int x1)]) d_TrustDesk_days_55 rfl rfl (by decide) rfl ?_
              refine mv_goto (tgt := 41) d_TrustDesk_days_58 (by decide) ?_
              have b19 : (i3_4 + 1).toInt = i3_4.toInt + 1 := mz_addn 1 1 (by decide) (by have := mz_lo i3_4; omega) (by have := mz_hi i3_4; omega)
              exact (ih4 (i3_4 + 1) T13 M11 n12 I15 t17 q18 (by omega))
        exact mv_less (Nat.zero_le _) (Nat.zero_le _) (L41_4 4294967296 (t / 360) T0 M0 n0 I0 h_o0 yt (by have := mz_lo (t / 360); omega))
      · refine mv_iconst (v := (-1)) d_TrustDesk_days_23 (by decide) ?_
        exact mv_iret d_TrustDesk_days_24 rfl (by first | rfl | decide) ⟨_, I0, _, rfl, Or.inl ⟨rfl, by omega, yt⟩⟩
