def w_TrustDesk_settle_h : List Nat := [300, 301, 302, 303, 601, 602, 603, 604, 607, 608, 662, 663, 1001, 1003, 1004, 1050, 1052, 1105, 1106, 5003]
set_option maxHeartbeats 100000000 in theorem tc_TrustDesk_settle_h {g : mj_G} {l : Launch} {d : Nat} {T0 : tm_H} {M0 : mj_M} {n0 x9 : Nat} {o0 : Nat} {x1 : Int32} (h_o0 : T0 o0 = some (0, 12, 0)) {Lf : Nat} (h_Lf : T0 Lf = some (3, 6, o0)) (q_Lf : tm_at M0 o0 12 6 (.ref Lf)) (hD : tm_D M0 Lf) (hN : ∀ i b, tm_ge M0 Lf i b → ∃ v : Int32, tm_at M0 b 6 0 (.int v) ∧ 0 ≤ v.toInt) {Ls S : Nat} {ks t : Int32} {R : Nat → Nat} {op la : Nat → Int} {G : Nat → Nat → Int} (h_Ls : T0 Ls = some (3, 11, o0)) (q_Ls : tm_at M0 o0 12 8 (.ref Ls)) (yks : tm_at M0 Ls 0 2 (.int ks)) (yS : ks.toInt = (S : Int)) (yH : qH M0 Ls S R op la G) (yt : tm_at M0 o0 12 12 (.int t)) (I0 : tm_I tm_FT (tm_in w_TrustDesk_settle_h) x9 T0 M0 n0 T0 M0 n0) : mj_Met g l kY_TrustDesk_settle (d + 10) [.ref o0, .int x1] M0 n0 146 11534 (tm_Q tm_FT (tm_in w_TrustDesk_settle_h) x9 T0 M0 n0 (fun r _ M => ∃ v : Int32, r = some (.int v) ∧ tm_JR T0 M0 M Lf ∧ ((¬ (0 ≤ x1.toInt ∧ x1.toInt < ks.toInt ∧ op x1.toInt.toNat = 0 ∧ la x1.toInt.toNat < t.toInt) ∧ M = M0) ∨ ((0 ≤ x1.toInt ∧ x1.toInt < ks.toInt ∧ op x1.toInt.toNat = 0 ∧ la x1.toInt.toNat < t.toInt) ∧ ∃ (s : Nat) (z1 : Int32), tm_ge M0 Ls x1.toInt.toNat s ∧ tm_at M s 11 5 (.int z1) ∧ z1.toInt ≠ 0 ∧ (∀ (a : Nat) (w : Value), T0 a = some (0, 11, 0) → a ≠ s → tm_at M0 a 11 5 w → tm_at M a 11 5 w))))) := by
  refine mj_enter (by decide) (Nat.le_of_ble_eq_true rfl) ?_
  have K0L : ∀ (a o : Nat) (w : Value), T0 a = some (3, 3, o) → tm_at M0 a 0 2 w → tm_at M0 a 0 2 w := fun a o w h q => q
  have K0J : ∀ (a : Nat) (w : Value), T0 a = some (0, 6, 0) → tm_at M0 a 6 8 w → tm_at M0 a 6 8 w := fun a w h q => q
  have K0Z : ∀ (a : Nat) (w : Value), T0 a = some (0, 11, 0) → tm_at M0 a 11 5 w → tm_at M0 a 11 5 w := fun a w h q => q
  refine mv_aload_n d_TrustDesk_settle_0 rfl rfl ?_
  refine mv_iload_n d_TrustDesk_settle_1 rfl rfl ?_
  obtain ⟨_, b1, -⟩ := I0.1 _ _ h_o0
  refine mv_callV (kc1 := 0) (ks1 := 0) (kc' := 146) (ks' := 11534) (As := [.int x1]) (st9 := [.int x1, .ref o0]) d_TrustDesk_settle_2 lV_TrustDesk_280 b1 rfl (mj_enter (by decide) (Nat.le_of_ble_eq_true rfl) ?_) rfl (Nat.le_of_ble_eq_true rfl) (Nat.le_of_ble_eq_true rfl) (Nat.le_of_ble_eq_true rfl) (hst := rfl) (fun _ _ _ h => h)
  refine mv_iload_n d_TrustDesk_schemeAt_0 rfl rfl ?_
  have := mz_hi x1
  refine mv_if_ltZ (tgt := 29) (a := x1.toInt) d_TrustDesk_schemeAt_1 (by decide) rfl (fun b2 => ?_) (fun b2 => ?_)
  · refine mv_null d_TrustDesk_schemeAt_29 ?_
    refine mv_aret (r := none) d_TrustDesk_schemeAt_30 rfl (by first | exact Or.inl ⟨_, rfl⟩ | exact Or.inr ⟨_, rfl⟩) ?_
    refine mv_astore_nN (lv' := [(2, .null), (0, .ref o0), (1, .int x1)]) d_TrustDesk_settle_5 rfl (by decide) rfl ?_
    refine mv_aload_nN d_TrustDesk_settle_6 rfl rfl ?_
    refine mv_ifnullN (tgt := 28) d_TrustDesk_settle_7 (by decide) ?_
    refine mv_iconst (v := (-1)) d_TrustDesk_settle_28 (by decide) ?_
    exact mv_iret d_TrustDesk_settle_29 rfl (by first | rfl | decide) ⟨_, I0, _, rfl, (Or.inl ⟨K0L, K0J⟩), Or.inl ⟨by omega, rfl⟩⟩
  · refine mv_iload_n d_TrustDesk_schemeAt_4 rfl rfl ?_
    refine mv_aload_n d_TrustDesk_schemeAt_5 rfl rfl ?_
    refine tr_getK (k := 8) q_Ls d_TrustDesk_schemeAt_6 f_TrustDesk_59_12 ?_
    obtain ⟨m4, e5, N6, f7, h3⟩ := tm_lsn I0 h_Ls yks
    refine mv_callV_s (kc' := 0) (ks' := 0) [] [.ref Ls, .int x1] d_TrustDesk_schemeAt_9 lV_TrustDesk_97 h3.1 rfl (tc_L_size (d := (d + 8)) h3.1) rfl (Nat.le_of_ble_eq_true rfl) (Nat.le_of_ble_eq_true rfl) (Nat.le_of_ble_eq_true rfl) rfl ?_
    have := mz_hi x1
    have := mz_hi ks
    refine mv_icmp_geZ (tgt := 29) (a := x1.toInt) (b := ks.toInt) d_TrustDesk_schemeAt_12 (by decide) rfl rfl (fun b8 => ?_) (fun b8 => ?_)
    · refine mv_null d_TrustDesk_schemeAt_29 ?_
      refine mv_aret (r := none) d_TrustDesk_schemeAt_30 rfl (by first | exact Or.inl ⟨_, rfl⟩ | exact Or.inr ⟨_, rfl⟩) ?_
      refine mv_astore_nN (lv' := [(2, .null), (0, .ref o0), (1, .int x1)]) d_TrustDesk_settle_5 rfl (by decide) rfl ?_
      refine mv_aload_nN d_TrustDesk_settle_6 rfl rfl ?_
      refine mv_ifnullN (tgt := 28) d_TrustDesk_settle_7 (by decide) ?_
      refine mv_iconst (v := (-1)) d_TrustDesk_settle_28 (by decide) ?_
      exact mv_iret d_TrustDesk_settle_29 rfl (by first | rfl | decide) ⟨_, I0, _, rfl, (Or.inl ⟨K0L, K0J⟩), Or.inl ⟨by omega, rfl⟩⟩
    · refine mv_aload_n d_TrustDesk_schemeAt_15 rfl rfl ?_
      refine tr_getK (k := 8) q_Ls d_TrustDesk_schemeAt_16 f_TrustDesk_59_12 ?_
      refine mv_iload_n d_TrustDesk_schemeAt_19 rfl rfl ?_
      obtain ⟨m10, e11, N12, f13, h9⟩ := tm_lsn I0 h_Ls yks
      obtain ⟨a15, g16, q17⟩ := yH.2 x1.toInt.toNat (by omega)
      obtain ⟨-, f19, t_a15⟩ := tm_ge.el h9 g16
      obtain ⟨e20, z21, c22, q23, h24, q25, h26, q27, h28, q29, h30⟩ := id q17
      have h18 : x1.toNatClampNeg = x1.toInt.toNat := by have := mz_nat9 (i := x1) (by omega); omega
      rw [← h18] at f19
      obtain ⟨u14e, u14i, -⟩ := tm_el (i := x1) h9 (by omega) (by omega)
      refine mv_callV_s (kc' := 0) (ks' := 0) [.int x1] [.int x1, .ref Ls] d_TrustDesk_schemeAt_20 lV_TrustDesk_158 h9.1 rfl (tc_L_get (d := (d + 6)) h9.1 u14e (by omega) (by omega) u14i f19) rfl (Nat.le_of_ble_eq_true rfl) (Nat.le_of_ble_eq_true rfl) (Nat.le_of_ble_eq_true rfl) rfl ?_
      obtain ⟨_, b31, -⟩ := I0.1 _ _ t_a15
      refine mv_castS (T9 := kF_Scheme) (N := 12) d_TrustDesk_schemeAt_23 (mj_in1 (List.mem_of_getElem? (i := 961) (by decide +kernel)) rfl) b31 rfl ?_
      refine mv_goto (tgt := 30) d_TrustDesk_schemeAt_26 (by decide) ?_
      refine mv_aret (r := (some a15)) d_TrustDesk_schemeAt_30 rfl (by first | exact Or.inl ⟨_, rfl⟩ | exact Or.inr ⟨_, rfl⟩) ?_
      refine mv_astore_n (lv' := [(2, .ref a15), (0, .ref o0), (1, .int x1)]) d_TrustDesk_settle_5 rfl (by decide) rfl ?_
      refine mv_aload_n d_TrustDesk_settle_6 rfl rfl ?_
      refine mv_ifnull d_TrustDesk_settle_7 ?_
      refine mv_aload_n d_TrustDesk_settle_10 rfl rfl ?_
      refine tr_getK (k := 5) q25 d_TrustDesk_settle_11 f_TrustDesk_284_11 ?_
      have := mz_hi z21
      refine mv_if_neZ (tgt := 28) (a := z21.toInt) d_TrustDesk_settle_14 (by decide) rfl (fun b32 => ?_) (fun b32 => ?_)
      · refine mv_iconst (v := (-1)) d_TrustDesk_settle_28 (by decide) ?_
        exact mv_iret d_TrustDesk_settle_29 rfl (by first | rfl | decide) ⟨_, I0, _, rfl, (Or.inl ⟨K0L, K0J⟩), Or.inl ⟨by omega, rfl⟩⟩
      · refine mv_aload_n d_TrustDesk_settle_17 rfl rfl ?_
        refine tr_getK (k := 12) yt d_TrustDesk_settle_18 f_TrustDesk_73_12 ?_
        refine mv_aload_n d_TrustDesk_settle_21 rfl rfl ?_
        refine tr_getK (k := 4) q23 d_TrustDesk_settle_22 f_TrustDesk_285_11 ?_
        have := mz_hi t
        have := mz_hi e20
        refine mv_icmp_gtZ (tgt := 30) (a := t.toInt) (b := e20.toInt) d_TrustDesk_settle_25 (by decide) rfl rfl (fun b33 => ?_) (fun b33 => ?_)
        · refine mv_aload_n d_TrustDesk_settle_30 rfl rfl ?_
          refine mv_aload_n d_TrustDesk_settle_31 rfl rfl ?_
          obtain ⟨_, b34, -⟩ := I0.1 _ _ h_o0
          refine mv_callV (kc1 := 0) (ks1 := 0) (kc' := 146) (ks' := 11534) (As := [.ref a15]) (st9 := [.ref a15, .ref o0]) d_TrustDesk_settle_32 lV_TrustDesk_314 b34 rfl (mj_enter (by decide) (Nat.le_of_ble_eq_true rfl) ?_) rfl (Nat.le_of_ble_eq_true rfl) (Nat.le_of_ble_eq_true rfl) (Nat.le_of_ble_eq_true rfl) (hst := rfl) (fun _ _ _ h => h)
          refine mv_aload_n d_TrustDesk_failureOf_0 rfl rfl ?_
          refine mv_aload_n d_TrustDesk_failureOf_1 rfl rfl ?_
          obtain ⟨v36, q35⟩ := tm_atI I0 t_a15 (k := 1) rfl
          refine tr_getK q35 d_TrustDesk_failureOf_2 f_TrustDesk_302_11 ?_
          obtain ⟨_, b37, -⟩ := I0.1 _ _ h_o0
          refine mv_callV (kc1 := 0) (ks1 := 0) (kc' := 0) (ks' := 0) (As := [.int v36]) (st9 := [.int v36, .ref o0]) d_TrustDesk_failureOf_5 lV_TrustDesk_257 b37 rfl (mj_enter (by decide) (Nat.le_of_ble_eq_true rfl) ?_) rfl (Nat.le_of_ble_eq_true rfl) (Nat.le_of_ble_eq_true rfl) (Nat.le_of_ble_eq_true rfl) (hst := rfl) (fun _ _ _ h => h)
          refine mv_iload_n d_TrustDesk_fundAt_0 rfl rfl ?_
          have := mz_hi v36
          refine mv_if_ltZ (tgt := 29) (a := v36.toInt) d_TrustDesk_fundAt_1 (by decide) rfl (fun b38 => ?_) (fun b38 => ?_)
          · refine mv_null d_TrustDesk_fundAt_29 ?_
            refine mv_aret (r := none) d_TrustDesk_fundAt_30 rfl (by first | exact Or.inl ⟨_, rfl⟩ | exact Or.inr ⟨_, rfl⟩) ?_
            refine mv_astore_nN (lv' := [(2, .null), (0, .ref o0), (1, .ref a15)]) d_TrustDesk_failureOf_8 rfl (by decide) rfl ?_
            refine mv_aload_nN d_TrustDesk_failureOf_9 rfl rfl ?_
            refine mv_ifnullN (tgt := 22) d_TrustDesk_failureOf_10 (by decide) ?_
            refine mv_iconst (v := 1) d_TrustDesk_failureOf_22 (by decide) ?_
            refine mv_iret d_TrustDesk_failureOf_23 rfl (by first | rfl | decide) ?_
            refine mv_istore_n (lv' := [(3, .int 1), (2, .ref a15), (0, .ref o0), (1, .int x1)]) d_TrustDesk_settle_35 rfl (by decide) rfl ?_
            refine mv_aload_n d_TrustDesk_settle_36 rfl rfl ?_
            refine mv_iload_n d_TrustDesk_settle_37 rfl rfl ?_
            refine tr_putKM tm_okF I0 t_a15 (k := 6) rfl ⟨_, rfl⟩ (Or.inl (by decide)) d_TrustDesk_settle_38 p_TrustDesk_318_11 rfl rfl (fun M39 I40 q41 K42 K42M => ?_)
            have K43 : ∀ (a o : Nat) (w : Value), T0 a = some (3, 3, o) → tm_at M0 a 0 2 w → tm_at M39 a 0 2 w := fun a o w h q => K42 _ 0 2 _ rfl (K0L a o w h q)
            have K44 : ∀ (a : Nat) (w : Value), T0 a = some (0, 6, 0) → tm_at M0 a 6 8 w → tm_at M39 a 6 8 w := fun a w h q => K42 _ 6 8 _ rfl (K0J a w h q)
            have K45 : ∀ (a : Nat) (w : Value), T0 a = some (0, 11, 0) → tm_at M0 a 11 5 w → tm_at M39 a 11 5 w := fun a w h q => K42 _ 11 5 _ rfl (K0Z a w h q)
            refine mv_aload_n d_TrustDesk_settle_41 rfl rfl ?_
            refine mv_iload_n d_TrustDesk_settle_42 rfl rfl ?_
            refine mv_if_ne_t (tgt := 50) d_TrustDesk_settle_43 (by decide) (by decide) ?_
            refine mv_iconst (v := 2) d_TrustDesk_settle_50 (by decide) ?_
            refine tr_putKM tm_okF I40 t_a15 (k := 5) rfl ⟨_, rfl⟩ (Or.inl (by decide)) d_TrustDesk_settle_51 p_TrustDesk_284_11 rfl rfl (fun M46 I47 q48 K49 K49M => ?_)
            have K50 : ∀ (a o : Nat) (w : Value), T0 a = some (3, 3, o) → tm_at M0 a 0 2 w → tm_at M46 a 0 2 w := fun a o w h q => K49 _ 0 2 _ rfl (K43 a o w h q)
            have K51 : ∀ (a : Nat) (w : Value), T0 a = some (0, 6, 0) → tm_at M0 a 6 8 w → tm_at M46 a 6 8 w := fun a w h q => K49 _ 6 8 _ rfl (K44 a w h q)
            have K52 : ∀ (a : Nat) (w : Value), T0 a = some (0, 11, 0) → a ≠ a15 → tm_at M0 a 11 5 w → tm_at M46 a 11 5 w := fun a w h hx q => tm_at.eq (K49M _ hx) (K45 a w h q)
            refine mv_iload_n d_TrustDesk_settle_54 rfl rfl ?_
            refine mv_if_ne_t (tgt := 63) d_TrustDesk_settle_55 (by decide) (by decide) ?_
            refine mv_iload_n d_TrustDesk_settle_63 rfl rfl ?_
            exact mv_iret d_TrustDesk_settle_64 rfl (by first | rfl | decide) ⟨_, I47, _, rfl, (Or.inl ⟨K50, K51⟩), Or.inr ⟨by omega, _, _, g16, q48, by decide, K52⟩⟩
          · refine mv_iload_n d_TrustDesk_fundAt_4 rfl rfl ?_
            refine mv_aload_n d_TrustDesk_fundAt_5 rfl rfl ?_
            refine tr_getK (k := 6) q_Lf d_TrustDesk_fundAt_6 f_TrustDesk_53_12 ?_
            obtain ⟨m54, n58, e55, N56, f57, h53⟩ := I0.1 _ _ h_Lf
            have := h53.2.1
            have : n58.toInt ≤ 12 := h53.2.2.1
            have q59 : tm_at M0 Lf 0 2 (.int n58) := ⟨_, h53.1, rfl⟩
            refine mv_callV_s (kc' := 0) (ks' := 0) [] [.ref Lf, .int v36] d_TrustDesk_fundAt_9 lV_TrustDesk_97 h53.1 rfl (tc_L_size (d := (d + 7)) h53.1) rfl (Nat.le_of_ble_eq_true rfl) (Nat.le_of_ble_eq_true rfl) (Nat.le_of_ble_eq_true rfl) rfl ?_
            have := mz_hi v36
            have := mz_hi n58
            refine mv_icmp_geZ (tgt := 29) (a := v36.toInt) (b := n58.toInt) d_TrustDesk_fundAt_12 (by decide) rfl rfl (fun b60 => ?_) (fun b60 => ?_)
            · refine mv_null d_TrustDesk_fundAt_29 ?_
              refine mv_aret (r := none) d_TrustDesk_fundAt_30 rfl (by first | exact Or.inl ⟨_, rfl⟩ | exact Or.inr ⟨_, rfl⟩) ?_
              refine mv_astore_nN (lv' := [(2, .null), (0, .ref o0), (1, .ref a15)]) d_TrustDesk_failureOf_8 rfl (by decide) rfl ?_
              refine mv_aload_nN d_TrustDesk_failureOf_9 rfl rfl ?_
              refine mv_ifnullN (tgt := 22) d_TrustDesk_failureOf_10 (by decide) ?_
              refine mv_iconst (v := 1) d_TrustDesk_failureOf_22 (by decide) ?_
              refine mv_iret d_TrustDesk_failureOf_23 rfl (by first | rfl | decide) ?_
              refine mv_istore_n (lv' := [(3, .int 1), (2, .ref a15), (0, .ref o0), (1, .int x1)]) d_TrustDesk_settle_35 rfl (by decide) rfl ?_
              refine mv_aload_n d_TrustDesk_settle_36 rfl rfl ?_
              refine mv_iload_n d_TrustDesk_settle_37 rfl rfl ?_
              refine tr_putKM tm_okF I0 t_a15 (k := 6) rfl ⟨_, rfl⟩ (Or.inl (by decide)) d_TrustDesk_settle_38 p_TrustDesk_318_11 rfl rfl (fun M61 I62 q63 K64 K64M => ?_)
              have K65 : ∀ (a o : Nat) (w : Value), T0 a = some (3, 3, o) → tm_at M0 a 0 2 w → tm_at M61 a 0 2 w := fun a o w h q => K64 _ 0 2 _ rfl (K0L a o w h q)
              have K66 : ∀ (a : Nat) (w : Value), T0 a = some (0, 6, 0) → tm_at M0 a 6 8 w → tm_at M61 a 6 8 w := fun a w h q => K64 _ 6 8 _ rfl (K0J a w h q)
              have K67 : ∀ (a : Nat) (w : Value), T0 a = some (0, 11, 0) → tm_at M0 a 11 5 w → tm_at M61 a 11 5 w := fun a w h q => K64 _ 11 5 _ rfl (K0Z a w h q)
              refine mv_aload_n d_TrustDesk_settle_41 rfl rfl ?_
              refine mv_iload_n d_TrustDesk_settle_42 rfl rfl ?_
              refine mv_if_ne_t (tgt := 50) d_TrustDesk_settle_43 (by decide) (by decide) ?_
              refine mv_iconst (v := 2) d_TrustDesk_settle_50 (by decide) ?_
              refine tr_putKM tm_okF I62 t_a15 (k := 5) rfl ⟨_, rfl⟩ (Or.inl (by decide)) d_TrustDesk_settle_51 p_TrustDesk_284_11 rfl rfl (fun M68 I69 q70 K71 K71M => ?_)
              have K72 : ∀ (a o : Nat) (w : Value), T0 a = some (3, 3, o) → tm_at M0 a 0 2 w → tm_at M68 a 0 2 w := fun a o w h q => K71 _ 0 2 _ rfl (K65 a o w h q)
              have K73 : ∀ (a : Nat) (w : Value), T0 a = some (0, 6, 0) → tm_at M0 a 6 8 w → tm_at M68 a 6 8 w := fun a w h q => K71 _ 6 8 _ rfl (K66 a w h q)
              have K74 : ∀ (a : Nat) (w : Value), T0 a = some (0, 11, 0) → a ≠ a15 → tm_at M0 a 11 5 w → tm_at M68 a 11 5 w := fun a w h hx q => tm_at.eq (K71M _ hx) (K67 a w h q)
              refine mv_iload_n d_TrustDesk_settle_54 rfl rfl ?_
              refine mv_if_ne_t (tgt := 63) d_TrustDesk_settle_55 (by decide) (by decide) ?_
              refine mv_iload_n d_TrustDesk_settle_63 rfl rfl ?_
              exact mv_iret d_TrustDesk_settle_64 rfl (by first | rfl | decide) ⟨_, I69, _, rfl, (Or.inl ⟨K72, K73⟩), Or.inr ⟨by omega, _, _, g16, q70, by decide, K74⟩⟩
            · refine mv_aload_n d_TrustDesk_fundAt_15 rfl rfl ?_
              refine tr_getK (k := 6) q_Lf d_TrustDesk_fundAt_16 f_TrustDesk_53_12 ?_
              refine mv_iload_n d_TrustDesk_fundAt_19 rfl rfl ?_
              obtain ⟨m76, e77, N78, f79, h75⟩ := tm_lsn I0 h_Lf q59
              have u80e := (tm_el (i := v36) h75 (by omega) (by omega)).1
              have u80i := (tm_el (i := v36) h75 (by omega) (by omega)).2.1
              obtain ⟨a81, u80f, u80t⟩ := (tm_el (i := v36) h75 (by omega) (by omega)).2.2
              have g82 := tm_ge.of h75 (by rw [mz_nat9 (by omega)]; omega) u80f
              have t_z83 : T0 a81 = some (0, 6, 0) := u80t
              refine mv_callV_s (kc' := 0) (ks' := 0) [.int v36] [.int v36, .ref Lf] d_TrustDesk_fundAt_20 lV_TrustDesk_158 h75.1 rfl (tc_L_get (d := (d + 5)) h75.1 u80e (by omega) (by omega) u80i u80f) rfl (Nat.le_of_ble_eq_true rfl) (Nat.le_of_ble_eq_true rfl) (Nat.le_of_ble_eq_true rfl) rfl ?_
              obtain ⟨_, b84, -⟩ := I0.1 _ _ t_z83
              refine mv_castS (T9 := kF_Fund) (N := 15) d_TrustDesk_fundAt_23 (mj_in1 (List.mem_of_getElem? (i := 655) (by decide +kernel)) rfl) b84 rfl ?_
              refine mv_goto (tgt := 30) d_TrustDesk_fundAt_26 (by decide) ?_
              refine mv_aret (r := (some a81)) d_TrustDesk_fundAt_30 rfl (by first | exact Or.inl ⟨_, rfl⟩ | exact Or.inr ⟨_, rfl⟩) ?_
              refine mv_astore_n (lv' := [(2, .ref a81), (0, .ref o0), (1, .ref a15)]) d_TrustDesk_failureOf_8 rfl (by decide) rfl ?_
              refine mv_aload_n d_TrustDesk_failureOf_9 rfl rfl ?_
              refine mv_ifnull d_TrustDesk_failureOf_10 ?_
              refine mv_aload_n d_TrustDesk_failureOf_13 rfl rfl ?_
              refine mv_aload_n d_TrustDesk_failureOf_14 rfl rfl ?_
              refine mv_aload_n d_TrustDesk_failureOf_15 rfl rfl ?_
              obtain ⟨_, b85, -⟩ := I0.1 _ _ h_o0
              refine mv_callV (kc1 := 0) (ks1 := 0) (kc' := 0) (ks' := 0) (As := [.ref a15, .ref a81]) (st9 := [.ref a81, .ref a15, .ref o0]) d_TrustDesk_failureOf_16 lV_TrustDesk_325 b85 rfl (mj_enter (by decide) (Nat.le_of_ble_eq_true rfl) ?_) rfl (Nat.le_of_ble_eq_true rfl) (Nat.le_of_ble_eq_true rfl) (Nat.le_of_ble_eq_true rfl) (hst := rfl) (fun _ _ _ h => h)
              refine mv_aload_n d_TrustDesk_canBe_0 rfl rfl ?_
              obtain ⟨_, b86, -⟩ := I0.1 _ _ t_z83
              refine mv_callV (kc1 := 0) (ks1 := 0) (kc' := 0) (ks' := 0) (As := []) (st9 := [.ref a81]) d_TrustDesk_canBe_1 lV_TrustDesk_162 b86 rfl (mj_enter (by decide) (Nat.le_of_ble_eq_true rfl) ?_) rfl (Nat.le_of_ble_eq_true rfl) (Nat.le_of_ble_eq_true rfl) (Nat.le_of_ble_eq_true rfl) (hst := rfl) (fun _ _ _ h => h)
              refine mv_aload_n d_Fund_isJoined_0 rfl rfl ?_
              obtain ⟨v88, q87⟩ := tm_atI I0 t_z83 (k := 8) rfl
              refine tr_getK q87 d_Fund_isJoined_1 f_Fund_18_6 ?_
              refine mv_iconst (v := (-1)) d_Fund_isJoined_4 (by decide) ?_
              have := mz_hi v88
              refine mv_icmp_eqZ (tgt := 12) (a := v88.toInt) (b := (-1)) d_Fund_isJoined_5 (by decide) rfl (by decide) (fun b89 => ?_) (fun b89 => ?_)
              · refine mv_iconst (v := 0) d_Fund_isJoined_12 (by decide) ?_
                refine mv_iret d_Fund_isJoined_13 rfl (by decide) ?_
                refine mv_if_eq_t (tgt := 9) d_TrustDesk_canBe_4 (by decide) (by decide) ?_
                refine mv_aload_n d_TrustDesk_canBe_9 rfl rfl ?_
                obtain ⟨v91, q90⟩ := tm_atI I0 t_a15 (k := 0) rfl
                refine tr_getK q90 d_TrustDesk_canBe_10 f_TrustDesk_308_11 ?_
                rcases (show (v91.toInt < 0 ∨ 2 < v91.toInt) ∨ v91.toInt = 0 ∨ v91.toInt = 1 ∨ v91.toInt = 2 by omega) with b92 | b92 | b92 | b92
                · refine mv_tableOut (tgt := 84) d_TrustDesk_canBe_13 b92 (by decide) ?_
                  refine mv_aload_n d_TrustDesk_canBe_84 rfl rfl ?_
                  refine mv_aload_n d_TrustDesk_canBe_85 rfl rfl ?_
                  obtain ⟨v94, q93⟩ := tm_atI I0 t_a15 (k := 2) rfl
                  refine tr_getK q93 d_TrustDesk_canBe_86 f_TrustDesk_311_11 ?_
                  obtain ⟨_, b101, -⟩ := I0.1 _ _ t_z83
                  refine mv_callV (kc' := 0) (ks' := 0) (As := [.int v94]) (st9 := [.int v94, .ref a81]) d_TrustDesk_canBe_89 lV_TrustDesk_359 b101 rfl (tc_Fund_endAt (d := (d + 4)) (x9 := x9) (o0 := a81) (x1 := v94) t_z83 I0.start) rfl (Nat.le_of_ble_eq_true rfl) (Nat.le_of_ble_eq_true rfl) (Nat.le_of_ble_eq_true rfl) (hst := rfl) (fun b95r M96 n97 b95 => ?_)
                  obtain ⟨T98, J99, b103⟩ := b95
                  have I100 := I0.call J99 (tm_sub (by decide)) (Or.inl rfl)
                  have t104 := J99.up h_o0
                  have t105 := J99.up t_a15
                  have t106 := J99.up t_z83
                  have K107 : ∀ (a o : Nat) (w : Value), T0 a = some (3, 3, o) → tm_at M0 a 0 2 w → tm_at M96 a 0 2 w := fun a o w h q => J99.keepL (I0.up h) (by decide) (K0L a o w h q)
                  have K108 : ∀ (a : Nat) (w : Value), T0 a = some (0, 6, 0) → tm_at M0 a 6 8 w → tm_at M96 a 6 8 w := fun a w h q => J99.keep (I0.up h) (by decide) (K0J a w h q)
                  have K109 : ∀ (a : Nat) (w : Value), T0 a = some (0, 11, 0) → tm_at M0 a 11 5 w → tm_at M96 a 11 5 w := fun a w h q => J99.keep (I0.up h) (by decide) (K0Z a w h q)
                  have q110 := J99.keep h_o0 (by decide) q_Lf
                  have t111 := J99.up h_Lf
                  have q112 := J99.keep h_o0 (by decide) q_Ls
                  have t113 := J99.up h_Ls
                  have q114 := J99.keepL h_Ls (by decide) yks
                  have q115 := J99.keep h_o0 (by decide) yt
                  have q116 := J99.keep t_a15 (by decide) q23
                  have q117 := J99.keep t_a15 (by decide) q25
                  have q118 := J99.keep t_a15 (by decide) q27
                  have q119 := J99.keep t_a15 (by decide) q35
                  have q120 := J99.keepL h_Lf (by decide) q59
                  have q121 := J99.keep t_z83 (by decide) q87
                  have q122 := J99.keep t_a15 (by decide) q90
                  have q123 := J99.keep t_a15 (by decide) q93
                  rcases b103 with rfl | ⟨a102, rfl, t_a102⟩
                  · refine mv_astore_nN (lv' := [(3, .null), (0, .ref o0), (1, .ref a15), (2, .ref a81)]) d_TrustDesk_canBe_92 rfl (by decide) rfl ?_
                    refine mv_aload_nN d_TrustDesk_canBe_93 rfl rfl ?_
                    refine mv_ifnullN (tgt := 109) d_TrustDesk_canBe_94 (by decide) ?_
                    refine mv_iconst (v := 0) d_TrustDesk_canBe_109 (by decide) ?_
                    refine mv_iret d_TrustDesk_canBe_110 rfl (by decide) ?_
                    refine mv_if_ne_f (tgt := 24) d_TrustDesk_failureOf_19 (by decide) (by decide) ?_
                    refine mv_iconst (v := 1) d_TrustDesk_failureOf_22 (by decide) ?_
                    refine mv_iret d_TrustDesk_failureOf_23 rfl (by first | rfl | decide) ?_
                    refine mv_istore_n (lv' := [(3, .int 1), (2, .ref a15), (0, .ref o0), (1, .int x1)]) d_TrustDesk_settle_35 rfl (by decide) rfl ?_
                    refine mv_aload_n d_TrustDesk_settle_36 rfl rfl ?_
                    refine mv_iload_n d_TrustDesk_settle_37 rfl rfl ?_
                    refine tr_putKM tm_okF I100 t105 (k := 6) rfl ⟨_, rfl⟩ (Or.inl (by decide)) d_TrustDesk_settle_38 p_TrustDesk_318_11 rfl rfl (fun M124 I125 q126 K127 K127M => ?_)
                    have K128 : ∀ (a o : Nat) (w : Value), T0 a = some (3, 3, o) → tm_at M0 a 0 2 w → tm_at M124 a 0 2 w := fun a o w h q => K127 _ 0 2 _ rfl (K107 a o w h q)
                    have K129 : ∀ (a : Nat) (w : Value), T0 a = some (0, 6, 0) → tm_at M0 a 6 8 w → tm_at M124 a 6 8 w := fun a w h q => K127 _ 6 8 _ rfl (K108 a w h q)
                    have K130 : ∀ (a : Nat) (w : Value), T0 a = some (0, 11, 0) → tm_at M0 a 11 5 w → tm_at M124 a 11 5 w := fun a w h q => K127 _ 11 5 _ rfl (K109 a w h q)
                    refine mv_aload_n d_TrustDesk_settle_41 rfl rfl ?_
                    refine mv_iload_n d_TrustDesk_settle_42 rfl rfl ?_
                    refine mv_if_ne_t (tgt := 50) d_TrustDesk_settle_43 (by decide) (by decide) ?_
                    refine mv_iconst (v := 2) d_TrustDesk_settle_50 (by decide) ?_
                    refine tr_putKM tm_okF I125 t105 (k := 5) rfl ⟨_, rfl⟩ (Or.inl (by decide)) d_TrustDesk_settle_51 p_TrustDesk_284_11 rfl rfl (fun M131 I132 q133 K134 K134M => ?_)
                    have K135 : ∀ (a o : Nat) (w : Value), T0 a = some (3, 3, o) → tm_at M0 a 0 2 w → tm_at M131 a 0 2 w := fun a o w h q => K134 _ 0 2 _ rfl (K128 a o w h q)
                    have K136 : ∀ (a : Nat) (w : Value), T0 a = some (0, 6, 0) → tm_at M0 a 6 8 w → tm_at M131 a 6 8 w := fun a w h q => K134 _ 6 8 _ rfl (K129 a w h q)
                    have K137 : ∀ (a : Nat) (w : Value), T0 a = some (0, 11, 0) → a ≠ a15 → tm_at M0 a 11 5 w → tm_at M131 a 11 5 w := fun a w h hx q => tm_at.eq (K134M _ hx) (K130 a w h q)
                    refine mv_iload_n d_TrustDesk_settle_54 rfl rfl ?_
                    refine mv_if_ne_t (tgt := 63) d_TrustDesk_settle_55 (by decide) (by decide) ?_
                    refine mv_iload_n d_TrustDesk_settle_63 rfl rfl ?_
                    exact mv_iret d_TrustDesk_settle_64 rfl (by first | rfl | decide) ⟨_, I132, _, rfl, (Or.inl ⟨K135, K136⟩), Or.inr ⟨by omega, _, _, g16, q133, by decide, K137⟩⟩
                  · refine mv_astore_n (lv' := [(3, .ref a102), (0, .ref o0), (1, .ref a15), (2, .ref a81)]) d_TrustDesk_canBe_92 rfl (by decide) rfl ?_
                    refine mv_aload_n d_TrustDesk_canBe_93 rfl rfl ?_
                    refine mv_ifnull d_TrustDesk_canBe_94 ?_
                    refine mv_aload_n d_TrustDesk_canBe_97 rfl rfl ?_
                    obtain ⟨v139, q138⟩ := tm_atI I100 t_a102 (k := 1) rfl
                    refine tr_getK q138 d_TrustDesk_canBe_98 f_TrustDesk_193_3 ?_
                    refine mv_iconst (v := 2) d_TrustDesk_canBe_101 (by decide) ?_
                    have := mz_hi v139
                    refine mv_icmp_eqZ (tgt := 109) (a := v139.toInt) (b := 2) d_TrustDesk_canBe_102 (by decide) rfl (by decide) (fun b140 => ?_) (fun b140 => ?_)
                    · refine mv_iconst (v := 0) d_TrustDesk_canBe_109 (by decide) ?_
                      refine mv_iret d_TrustDesk_canBe_110 rfl (by decide) ?_
                      refine mv_if_ne_f (tgt := 24) d_TrustDesk_failureOf_19 (by decide) (by decide) ?_
                      refine mv_iconst (v := 1) d_TrustDesk_failureOf_22 (by decide) ?_
                      refine mv_iret d_TrustDesk_failureOf_23 rfl (by first | rfl | decide) ?_
                      refine mv_istore_n (lv' := [(3, .int 1), (2, .ref a15), (0, .ref o0), (1, .int x1)]) d_TrustDesk_settle_35 rfl (by decide) rfl ?_
                      refine mv_aload_n d_TrustDesk_settle_36 rfl rfl ?_
                      refine mv_iload_n d_TrustDesk_settle_37 rfl rfl ?_
                      refine tr_putKM tm_okF I100 t105 (k := 6) rfl ⟨_, rfl⟩ (Or.inl (by decide)) d_TrustDesk_settle_38 p_TrustDesk_318_11 rfl rfl (fun M141 I142 q143 K144 K144M => ?_)
                      have K145 : ∀ (a o : Nat) (w : Value), T0 a = some (3, 3, o) → tm_at M0 a 0 2 w → tm_at M141 a 0 2 w := fun a o w h q => K144 _ 0 2 _ rfl (K107 a o w h q)
                      have K146 : ∀ (a : Nat) (w : Value), T0 a = some (0, 6, 0) → tm_at M0 a 6 8 w → tm_at M141 a 6 8 w := fun a w h q => K144 _ 6 8 _ rfl (K108 a w h q)
                      have K147 : ∀ (a : Nat) (w : Value), T0 a = some (0, 11, 0) → tm_at M0 a 11 5 w → tm_at M141 a 11 5 w := fun a w h q => K144 _ 11 5 _ rfl (K109 a w h q)
                      refine mv_aload_n d_TrustDesk_settle_41 rfl rfl ?_
                      refine mv_iload_n d_TrustDesk_settle_42 rfl rfl ?_
                      refine mv_if_ne_t (tgt := 50) d_TrustDesk_settle_43 (by decide) (by decide) ?_
                      refine mv_iconst (v := 2) d_TrustDesk_settle_50 (by decide) ?_
                      refine tr_putKM tm_okF I142 t105 (k := 5) rfl ⟨_, rfl⟩ (Or.inl (by decide)) d_TrustDesk_settle_51 p_TrustDesk_284_11 rfl rfl (fun M148 I149 q150 K151 K151M => ?_)
                      have K152 : ∀ (a o : Nat) (w : Value), T0 a = some (3, 3, o) → tm_at M0 a 0 2 w → tm_at M148 a 0 2 w := fun a o w h q => K151 _ 0 2 _ rfl (K145 a o w h q)
                      have K153 : ∀ (a : Nat) (w : Value), T0 a = some (0, 6, 0) → tm_at M0 a 6 8 w → tm_at M148 a 6 8 w := fun a w h q => K151 _ 6 8 _ rfl (K146 a w h q)
                      have K154 : ∀ (a : Nat) (w : Value), T0 a = some (0, 11, 0) → a ≠ a15 → tm_at M0 a 11 5 w → tm_at M148 a 11 5 w := fun a w h hx q => tm_at.eq (K151M _ hx) (K147 a w h q)
                      refine mv_iload_n d_TrustDesk_settle_54 rfl rfl ?_
                      refine mv_if_ne_t (tgt := 63) d_TrustDesk_settle_55 (by decide) (by decide) ?_
                      refine mv_iload_n d_TrustDesk_settle_63 rfl rfl ?_
                      exact mv_iret d_TrustDesk_settle_64 rfl (by first | rfl | decide) ⟨_, I149, _, rfl, (Or.inl ⟨K152, K153⟩), Or.inr ⟨by omega, _, _, g16, q150, by decide, K154⟩⟩
                    · refine mv_iconst (v := 1) d_TrustDesk_canBe_105 (by decide) ?_
                      refine mv_goto (tgt := 110) d_TrustDesk_canBe_106 (by decide) ?_
                      refine mv_iret d_TrustDesk_canBe_110 rfl (by decide) ?_
                      refine mv_if_ne_t (tgt := 24) d_TrustDesk_failureOf_19 (by decide) (by decide) ?_
                      refine mv_aload_n d_TrustDesk_failureOf_24 rfl rfl ?_
                      refine mv_aload_n d_TrustDesk_failureOf_25 rfl rfl ?_
                      refine tr_getK (k := 12) q115 d_TrustDesk_failureOf_26 f_TrustDesk_73_12 ?_
                      obtain ⟨_, b161, -⟩ := I100.1 _ _ t104
                      refine mv_callV (kc' := 0) (ks' := 0) (As := [.int t]) (st9 := [.int t, .ref o0]) d_TrustDesk_failureOf_29 lV_TrustDesk_114 b161 rfl (tc_TrustDesk_inForce (d := (d + 5)) (x9 := x9) (o0 := o0) (x1 := t) t104 I100.start) rfl (Nat.le_of_ble_eq_true rfl) (Nat.le_of_ble_eq_true rfl) (Nat.le_of_ble_eq_true rfl) (hst := rfl) (fun b155r M156 n157 b155 => ?_)
                      obtain ⟨T158, J159, a162, rfl, t_a162⟩ := b155
                      have I160 := I100.call J159 (tm_sub (by decide)) (Or.inl rfl)
                      have t163 := J159.up t106
                      have t164 := J159.up t104
                      have t165 := J159.up t105
                      have K166 : ∀ (a o : Nat) (w : Value), T0 a = some (3, 3, o) → tm_at M0 a 0 2 w → tm_at M156 a 0 2 w := fun a o w h q => J159.keepL (I100.up h) (by decide) (K107 a o w h q)
                      have K167 : ∀ (a : Nat) (w : Value), T0 a = some (0, 6, 0) → tm_at M0 a 6 8 w → tm_at M156 a 6 8 w := fun a w h q => J159.keep (I100.up h) (by decide) (K108 a w h q)
                      have K168 : ∀ (a : Nat) (w : Value), T0 a = some (0, 11, 0) → tm_at M0 a 11 5 w → tm_at M156 a 11 5 w := fun a w h q => J159.keep (I100.up h) (by decide) (K109 a w h q)
                      have q169 := J159.keep t104 (by decide) q110
                      have t170 := J159.up t111
                      have q171 := J159.keep t104 (by decide) q112
                      have t172 := J159.up t113
                      have q173 := J159.keepL t113 (by decide) q114
                      have q174 := J159.keep t104 (by decide) q115
                      have q175 := J159.keep t105 (by decide) q116
                      have q176 := J159.keep t105 (by decide) q117
                      have q177 := J159.keep t105 (by decide) q118
                      have q178 := J159.keep t105 (by decide) q119
                      have q179 := J159.keepL t111 (by decide) q120
                      have q180 := J159.keep t106 (by decide) q121
                      have q181 := J159.keep t105 (by decide) q122
                      have q182 := J159.keep t105 (by decide) q123
                      refine mv_astore_n (lv' := [(3, .ref a162), (2, .ref a81), (0, .ref o0), (1, .ref a15)]) d_TrustDesk_failureOf_32 rfl (by decide) rfl ?_
                      refine mv_aload_n d_TrustDesk_failureOf_33 rfl rfl ?_
                      refine mv_aload_n d_TrustDesk_failureOf_34 rfl rfl ?_
                      refine tr_getK (k := 0) q181 d_TrustDesk_failureOf_35 f_TrustDesk_308_11 ?_
                      refine mv_aload_n d_TrustDesk_failureOf_38 rfl rfl ?_
                      refine mv_aload_n d_TrustDesk_failureOf_39 rfl rfl ?_
                      obtain ⟨_, b189, -⟩ := I160.1 _ _ t164
                      refine mv_callV (kc' := 0) (ks' := 0) (As := [.int v91, .ref a81, .ref a162]) (st9 := [.ref a162, .ref a81, .int v91, .ref o0]) d_TrustDesk_failureOf_40 lV_TrustDesk_329 b189 rfl (tc_TrustDesk_isBarred (d := (d + 4)) (x9 := x9) (o0 := o0) (x1 := v91) (o2 := a81) (o3 := a162) t164 t163 t_a162 I160.start) rfl (Nat.le_of_ble_eq_true rfl) (Nat.le_of_ble_eq_true rfl) (Nat.le_of_ble_eq_true rfl) (hst := rfl) (fun b183r M184 n185 b183 => ?_)
                      obtain ⟨T186, J187, v190, rfl, b191, b192⟩ := b183
                      have I188 := I160.call J187 (tm_sub (by decide)) (Or.inl rfl)
                      have t193 := J187.up t_a162
                      have t194 := J187.up t163
                      have t195 := J187.up t164
                      have t196 := J187.up t165
                      have K197 : ∀ (a o : Nat) (w : Value), T0 a = some (3, 3, o) → tm_at M0 a 0 2 w → tm_at M184 a 0 2 w := fun a o w h q => J187.keepL (I160.up h) (by decide) (K166 a o w h q)
                      have K198 : ∀ (a : Nat) (w : Value), T0 a = some (0, 6, 0) → tm_at M0 a 6 8 w → tm_at M184 a 6 8 w := fun a w h q => J187.keep (I160.up h) (by decide) (K167 a w h q)
                      have K199 : ∀ (a : Nat) (w : Value), T0 a = some (0, 11, 0) → tm_at M0 a 11 5 w → tm_at M184 a 11 5 w := fun a w h q => J187.keep (I160.up h) (by decide) (K168 a w h q)
                      have q200 := J187.keep t164 (by decide) q169
                      have t201 := J187.up t170
                      have q202 := J187.keep t164 (by decide) q171
                      have t203 := J187.up t172
                      have q204 := J187.keepL t172 (by decide) q173
                      have q205 := J187.keep t164 (by decide) q174
                      have q206 := J187.keep t165 (by decide) q175
                      have q207 := J187.keep t165 (by decide) q176
                      have q208 := J187.keep t165 (by decide) q177
                      have q209 := J187.keep t165 (by decide) q178
                      have q210 := J187.keepL t170 (by decide) q179
                      have q211 := J187.keep t163 (by decide) q180
                      have q212 := J187.keep t165 (by decide) q181
                      have q213 := J187.keep t165 (by decide) q182
                      have := mz_hi v190
                      refine mv_if_eqZ (tgt := 48) (a := v190.toInt) d_TrustDesk_failureOf_43 (by decide) rfl (fun b214 => ?_) (fun b214 => ?_)
                      · refine mv_aload_n d_TrustDesk_failureOf_48 rfl rfl ?_
                        refine mv_aload_n d_TrustDesk_failureOf_49 rfl rfl ?_
                        refine mv_aload_n d_TrustDesk_failureOf_50 rfl rfl ?_
                        obtain ⟨_, b221, -⟩ := I188.1 _ _ t195
                        refine mv_callV (kc' := 0) (ks' := 0) (As := [.ref a15, .ref a81]) (st9 := [.ref a81, .ref a15, .ref o0]) d_TrustDesk_failureOf_51 lV_TrustDesk_333 b221 rfl (tc_TrustDesk_marksLeft (d := (d + 4)) (x9 := x9) (o0 := o0) (o1 := a15) (o2 := a81) t195 t196 t194 I188.start) rfl (Nat.le_of_ble_eq_true rfl) (Nat.le_of_ble_eq_true rfl) (Nat.le_of_ble_eq_true rfl) (hst := rfl) (fun b215r M216 n217 b215 => ?_)
                        obtain ⟨T218, J219, v222, rfl⟩ := b215
                        have I220 := I188.call J219 (tm_sub (by decide)) (Or.inl rfl)
                        have t223 := J219.up t193
                        have t224 := J219.up t194
                        have t225 := J219.up t195
                        have t226 := J219.up t196
                        have K227 : ∀ (a o : Nat) (w : Value), T0 a = some (3, 3, o) → tm_at M0 a 0 2 w → tm_at M216 a 0 2 w := fun a o w h q => J219.keepL (I188.up h) (by decide) (K197 a o w h q)
                        have K228 : ∀ (a : Nat) (w : Value), T0 a = some (0, 6, 0) → tm_at M0 a 6 8 w → tm_at M216 a 6 8 w := fun a w h q => J219.keep (I188.up h) (by decide) (K198 a w h q)
                        have K229 : ∀ (a : Nat) (w : Value), T0 a = some (0, 11, 0) → tm_at M0 a 11 5 w → tm_at M216 a 11 5 w := fun a w h q => J219.keep (I188.up h) (by decide) (K199 a w h q)
                        have q230 := J219.keep t195 (by decide) q200
                        have t231 := J219.up t201
                        have q232 := J219.keep t195 (by decide) q202
                        have t233 := J219.up t203
                        have q234 := J219.keepL t203 (by decide) q204
                        have q235 := J219.keep t195 (by decide) q205
                        have q236 := J219.keep t196 (by decide) q206
                        have q237 := J219.keep t196 (by decide) q207
                        have q238 := J219.keep t196 (by decide) q208
                        have q239 := J219.keep t196 (by decide) q209
                        have q240 := J219.keepL t201 (by decide) q210
                        have q241 := J219.keep t194 (by decide) q211
                        have q242 := J219.keep t196 (by decide) q212
                        have q243 := J219.keep t196 (by decide) q213
                        refine mv_callS (kc' := 0) (ks' := 0) (As := [.int v222]) (st9 := [.int v222]) d_TrustDesk_failureOf_54 lS_TrustDesk_337 (tc_Integer_bitCount (d := (d + 8)) (x9 := x9) (x1 := v222)  I220.start) rfl (Nat.le_of_ble_eq_true rfl) (Nat.le_of_ble_eq_true rfl) (Nat.le_of_ble_eq_true rfl) (hst := rfl) (fun b244r M245 n246 b244 => ?_)
                        obtain ⟨T247, J248, v250, rfl⟩ := b244
                        have I249 := I220.call J248 (tm_sub (by decide)) (Or.inl rfl)
                        have t251 := J248.up t223
                        have t252 := J248.up t224
                        have t253 := J248.up t225
                        have t254 := J248.up t226
                        have K255 : ∀ (a o : Nat) (w : Value), T0 a = some (3, 3, o) → tm_at M0 a 0 2 w → tm_at M245 a 0 2 w := fun a o w h q => J248.keepL (I220.up h) (by decide) (K227 a o w h q)
                        have K256 : ∀ (a : Nat) (w : Value), T0 a = some (0, 6, 0) → tm_at M0 a 6 8 w → tm_at M245 a 6 8 w := fun a w h q => J248.keep (I220.up h) (by decide) (K228 a w h q)
                        have K257 : ∀ (a : Nat) (w : Value), T0 a = some (0, 11, 0) → tm_at M0 a 11 5 w → tm_at M245 a 11 5 w := fun a w h q => J248.keep (I220.up h) (by decide) (K229 a w h q)
                        have q258 := J248.keep t225 (by decide) q230
                        have t259 := J248.up t231
                        have q260 := J248.keep t225 (by decide) q232
                        have t261 := J248.up t233
                        have q262 := J248.keepL t233 (by decide) q234
                        have q263 := J248.keep t225 (by decide) q235
                        have q264 := J248.keep t226 (by decide) q236
                        have q265 := J248.keep t226 (by decide) q237
                        have q266 := J248.keep t226 (by decide) q238
                        have q267 := J248.keep t226 (by decide) q239
                        have q268 := J248.keepL t231 (by decide) q240
                        have q269 := J248.keep t224 (by decide) q241
                        have q270 := J248.keep t226 (by decide) q242
                        have q271 := J248.keep t226 (by decide) q243
                        refine mv_aload_n d_TrustDesk_failureOf_57 rfl rfl ?_
                        refine mv_iconst (v := 1) d_TrustDesk_failureOf_58 (by decide) ?_
                        obtain ⟨_, b278, -⟩ := I249.1 _ _ t251
                        refine mv_callV (kc' := 0) (ks' := 0) (As := [.int 1]) (st9 := [.int 1, .ref a162, .int v250]) d_TrustDesk_failureOf_59 lV_TrustDesk_118 b278 rfl (tc_Act_rule (d := (d + 8)) (x9 := x9) (o0 := a162) (x1 := 1) t251 I249.start) rfl (Nat.le_of_ble_eq_true rfl) (Nat.le_of_ble_eq_true rfl) (Nat.le_of_ble_eq_true rfl) (hst := rfl) (fun b272r M273 n274 b272 => ?_)
                        obtain ⟨T275, J276, v279, rfl⟩ := b272
                        have I277 := I249.call J276 (tm_sub (by decide)) (Or.inl rfl)
                        have t280 := J276.up t251
                        have t281 := J276.up t252
                        have t282 := J276.up t253
                        have t283 := J276.up t254
                        have K284 : ∀ (a o : Nat) (w : Value), T0 a = some (3, 3, o) → tm_at M0 a 0 2 w → tm_at M273 a 0 2 w := fun a o w h q => J276.keepL (I249.up h) (by decide) (K255 a o w h q)
                        have K285 : ∀ (a : Nat) (w : Value), T0 a = some (0, 6, 0) → tm_at M0 a 6 8 w → tm_at M273 a 6 8 w := fun a w h q => J276.keep (I249.up h) (by decide) (K256 a w h q)
                        have K286 : ∀ (a : Nat) (w : Value), T0 a = some (0, 11, 0) → tm_at M0 a 11 5 w → tm_at M273 a 11 5 w := fun a w h q => J276.keep (I249.up h) (by decide) (K257 a w h q)
                        have q287 := J276.keep t253 (by decide) q258
                        have t288 := J276.up t259
                        have q289 := J276.keep t253 (by decide) q260
                        have t290 := J276.up t261
                        have q291 := J276.keepL t261 (by decide) q262
                        have q292 := J276.keep t253 (by decide) q263
                        have q293 := J276.keep t254 (by decide) q264
                        have q294 := J276.keep t254 (by decide) q265
                        have q295 := J276.keep t254 (by decide) q266
                        have q296 := J276.keep t254 (by decide) q267
                        have q297 := J276.keepL t259 (by decide) q268
                        have q298 := J276.keep t252 (by decide) q269
                        have q299 := J276.keep t254 (by decide) q270
                        have q300 := J276.keep t254 (by decide) q271
                        have := mz_hi v250
                        have := mz_hi v279
                        refine mv_icmp_geZ (tgt := 67) (a := v250.toInt) (b := v279.toInt) d_TrustDesk_failureOf_62 (by decide) rfl rfl (fun b301 => ?_) (fun b301 => ?_)
                        · refine mv_aload_n d_TrustDesk_failureOf_67 rfl rfl ?_
                          refine mv_aload_n d_TrustDesk_failureOf_68 rfl rfl ?_
                          refine mv_aload_n d_TrustDesk_failureOf_69 rfl rfl ?_
                          obtain ⟨_, b308, -⟩ := I277.1 _ _ t282
                          refine mv_callV (kc' := 0) (ks' := 0) (As := [.ref a15, .ref a81]) (st9 := [.ref a81, .ref a15, .ref o0]) d_TrustDesk_failureOf_70 lV_TrustDesk_342 b308 rfl (tc_TrustDesk_isCarried (d := (d + 4)) (x9 := x9) (o0 := o0) (o1 := a15) (o2 := a81) t282 t283 t281 I277.start) rfl (Nat.le_of_ble_eq_true rfl) (Nat.le_of_ble_eq_true rfl) (Nat.le_of_ble_eq_true rfl) (hst := rfl) (fun b302r M303 n304 b302 => ?_)
                          obtain ⟨T305, J306, v309, rfl, b310, b311⟩ := b302
                          have I307 := I277.call J306 (tm_sub (by decide)) (Or.inl rfl)
                          have t312 := J306.up t280
                          have t313 := J306.up t281
                          have t314 := J306.up t282
                          have t315 := J306.up t283
                          have K316 : ∀ (a o : Nat) (w : Value), T0 a = some (3, 3, o) → tm_at M0 a 0 2 w → tm_at M303 a 0 2 w := fun a o w h q => J306.keepL (I277.up h) (by decide) (K284 a o w h q)
                          have K317 : ∀ (a : Nat) (w : Value), T0 a = some (0, 6, 0) → tm_at M0 a 6 8 w → tm_at M303 a 6 8 w := fun a w h q => J306.keep (I277.up h) (by decide) (K285 a w h q)
                          have K318 : ∀ (a : Nat) (w : Value), T0 a = some (0, 11, 0) → tm_at M0 a 11 5 w → tm_at M303 a 11 5 w := fun a w h q => J306.keep (I277.up h) (by decide) (K286 a w h q)
                          have q319 := J306.keep t282 (by decide) q287
                          have t320 := J306.up t288
                          have q321 := J306.keep t282 (by decide) q289
                          have t322 := J306.up t290
                          have q323 := J306.keepL t290 (by decide) q291
                          have q324 := J306.keep t282 (by decide) q292
                          have q325 := J306.keep t283 (by decide) q293
                          have q326 := J306.keep t283 (by decide) q294
                          have q327 := J306.keep t283 (by decide) q295
                          have q328 := J306.keep t283 (by decide) q296
                          have q329 := J306.keepL t288 (by decide) q297
                          have q330 := J306.keep t281 (by decide) q298
                          have q331 := J306.keep t283 (by decide) q299
                          have q332 := J306.keep t283 (by decide) q300
                          have := mz_hi v309
                          refine mv_if_neZ (tgt := 78) (a := v309.toInt) d_TrustDesk_failureOf_73 (by decide) rfl (fun b333 => ?_) (fun b333 => ?_)
                          · refine mv_aload_n d_TrustDesk_failureOf_78 rfl rfl ?_
                            refine tr_getK (k := 7) q327 d_TrustDesk_failureOf_79 f_TrustDesk_345_11 ?_
                            have := mz_hi c22
                            refine mv_if_leZ (tgt := 89) (a := c22.toInt) d_TrustDesk_failureOf_82 (by decide) rfl (fun b334 => ?_) (fun b334 => ?_)
                            · refine mv_iconst (v := 0) d_TrustDesk_failureOf_89 (by decide) ?_
                              refine mv_iret d_TrustDesk_failureOf_90 rfl (by first | rfl | decide) ?_
                              refine mv_istore_n (lv' := [(3, .int 0), (2, .ref a15), (0, .ref o0), (1, .int x1)]) d_TrustDesk_settle_35 rfl (by decide) rfl ?_
                              refine mv_aload_n d_TrustDesk_settle_36 rfl rfl ?_
                              refine mv_iload_n d_TrustDesk_settle_37 rfl rfl ?_
                              refine tr_putKM tm_okF I307 t315 (k := 6) rfl ⟨_, rfl⟩ (Or.inl (by decide)) d_TrustDesk_settle_38 p_TrustDesk_318_11 rfl rfl (fun M335 I336 q337 K338 K338M => ?_)
                              have K339 : ∀ (a o : Nat) (w : Value), T0 a = some (3, 3, o) → tm_at M0 a 0 2 w → tm_at M335 a 0 2 w := fun a o w h q => K338 _ 0 2 _ rfl (K316 a o w h q)
                              have K340 : ∀ (a : Nat) (w : Value), T0 a = some (0, 6, 0) → tm_at M0 a 6 8 w → tm_at M335 a 6 8 w := fun a w h q => K338 _ 6 8 _ rfl (K317 a w h q)
                              have K341 : ∀ (a : Nat) (w : Value), T0 a = some (0, 11, 0) → tm_at M0 a 11 5 w → tm_at M335 a 11 5 w := fun a w h q => K338 _ 11 5 _ rfl (K318 a w h q)
                              refine mv_aload_n d_TrustDesk_settle_41 rfl rfl ?_
                              refine mv_iload_n d_TrustDesk_settle_42 rfl rfl ?_
                              refine mv_if_ne_f (tgt := 50) d_TrustDesk_settle_43 (by decide) (by decide) ?_
                              refine mv_iconst (v := 1) d_TrustDesk_settle_46 (by decide) ?_
                              refine mv_goto (tgt := 51) d_TrustDesk_settle_47 (by decide) ?_
                              refine tr_putKM tm_okF I336 t315 (k := 5) rfl ⟨_, rfl⟩ (Or.inl (by decide)) d_TrustDesk_settle_51 p_TrustDesk_284_11 rfl rfl (fun M342 I343 q344 K345 K345M => ?_)
                              have K346 : ∀ (a o : Nat) (w : Value), T0 a = some (3, 3, o) → tm_at M0 a 0 2 w → tm_at M342 a 0 2 w := fun a o w h q => K345 _ 0 2 _ rfl (K339 a o w h q)
                              have K347 : ∀ (a : Nat) (w : Value), T0 a = some (0, 6, 0) → tm_at M0 a 6 8 w → tm_at M342 a 6 8 w := fun a w h q => K345 _ 6 8 _ rfl (K340 a w h q)
                              have K348 : ∀ (a : Nat) (w : Value), T0 a = some (0, 11, 0) → a ≠ a15 → tm_at M0 a 11 5 w → tm_at M342 a 11 5 w := fun a w h hx q => tm_at.eq (K345M _ hx) (K341 a w h q)
                              refine mv_iload_n d_TrustDesk_settle_54 rfl rfl ?_
                              refine mv_if_ne_f (tgt := 63) d_TrustDesk_settle_55 (by decide) (by decide) ?_
                              refine mv_aload_n d_TrustDesk_settle_58 rfl rfl ?_
                              refine mv_aload_n d_TrustDesk_settle_59 rfl rfl ?_
                              obtain ⟨_, b349, -⟩ := I343.1 _ _ t314
                              refine mv_callV (kc1 := 0) (ks1 := 0) (kc' := 0) (ks' := 0) (As := [.ref a15]) (st9 := [.ref a15, .ref o0]) d_TrustDesk_settle_60 lV_TrustDesk_321 b349 rfl (mj_enter (by decide) (Nat.le_of_ble_eq_true rfl) ?_) rfl (Nat.le_of_ble_eq_true rfl) (Nat.le_of_ble_eq_true rfl) (Nat.le_of_ble_eq_true rfl) (hst := rfl) (fun _ _ _ h => h)
                              refine mv_aload_n d_TrustDesk_carryOut_0 rfl rfl ?_
                              refine mv_aload_n d_TrustDesk_carryOut_1 rfl rfl ?_
                              refine tr_getK (k := 1) (K345 _ 11 1 _ rfl (K338 _ 11 1 _ rfl q328)) d_TrustDesk_carryOut_2 f_TrustDesk_302_11 ?_
                              obtain ⟨_, b350, -⟩ := I343.1 _ _ t314
                              refine mv_callV (kc1 := 0) (ks1 := 0) (kc' := 0) (ks' := 0) (As := [.int v36]) (st9 := [.int v36, .ref o0]) d_TrustDesk_carryOut_5 lV_TrustDesk_257 b350 rfl (mj_enter (by decide) (Nat.le_of_ble_eq_true rfl) ?_) rfl (Nat.le_of_ble_eq_true rfl) (Nat.le_of_ble_eq_true rfl) (Nat.le_of_ble_eq_true rfl) (hst := rfl) (fun _ _ _ h => h)
                              refine mv_iload_n d_TrustDesk_fundAt_0 rfl rfl ?_
                              have := mz_hi v36
                              refine mv_if_ltZ (tgt := 29) (a := v36.toInt) d_TrustDesk_fundAt_1 (by decide) rfl (fun b351 => absurd b351 (by omega)) (fun b351 => ?_)
                              refine mv_iload_n d_TrustDesk_fundAt_4 rfl rfl ?_
                              refine mv_aload_n d_TrustDesk_fundAt_5 rfl rfl ?_
                              refine tr_getK (k := 6) (K345 _ 12 6 _ rfl (K338 _ 12 6 _ rfl q319)) d_TrustDesk_fundAt_6 f_TrustDesk_53_12 ?_
                              obtain ⟨m353, e354, N355, f356, h352⟩ := tm_lsn I343 t320 (K345 _ 0 2 _ rfl (K338 _ 0 2 _ rfl q329))
                              refine mv_callV_s (kc' := 0) (ks' := 0) [] [.ref Lf, .int v36] d_TrustDesk_fundAt_9 lV_TrustDesk_97 h352.1 rfl (tc_L_size (d := (d + 7)) h352.1) rfl (Nat.le_of_ble_eq_true rfl) (Nat.le_of_ble_eq_true rfl) (Nat.le_of_ble_eq_true rfl) rfl ?_
                              have := mz_hi v36
                              have := mz_hi n58
                              refine mv_icmp_geZ (tgt := 29) (a := v36.toInt) (b := n58.toInt) d_TrustDesk_fundAt_12 (by decide) rfl rfl (fun b357 => ?_) (fun b357 => ?_)
                              · refine mv_null d_TrustDesk_fundAt_29 ?_
                                refine mv_aret (r := none) d_TrustDesk_fundAt_30 rfl (by first | exact Or.inl ⟨_, rfl⟩ | exact Or.inr ⟨_, rfl⟩) ?_
                                refine mv_astore_nN (lv' := [(2, .null), (0, .ref o0), (1, .ref a15)]) d_TrustDesk_carryOut_8 rfl (by decide) rfl ?_
                                refine mv_aload_nN d_TrustDesk_carryOut_9 rfl rfl ?_
                                refine mv_ifnonnullN d_TrustDesk_carryOut_10 ?_
                                refine mv_vret d_TrustDesk_carryOut_13 rfl ?_
                                refine mv_iload_n d_TrustDesk_settle_63 rfl rfl ?_
                                exact mv_iret d_TrustDesk_settle_64 rfl (by first | rfl | decide) ⟨_, I343, _, rfl, (Or.inl ⟨K346, K347⟩), Or.inr ⟨by omega, _, _, g16, q344, by decide, K348⟩⟩
                              · refine mv_aload_n d_TrustDesk_fundAt_15 rfl rfl ?_
                                refine tr_getK (k := 6) (K345 _ 12 6 _ rfl (K338 _ 12 6 _ rfl q319)) d_TrustDesk_fundAt_16 f_TrustDesk_53_12 ?_
                                refine mv_iload_n d_TrustDesk_fundAt_19 rfl rfl ?_
                                obtain ⟨m359, e360, N361, f362, h358⟩ := tm_lsn I343 t320 (K345 _ 0 2 _ rfl (K338 _ 0 2 _ rfl q329))
                                have u363e := (tm_el (i := v36) h358 (by omega) (by omega)).1
                                have u363i := (tm_el (i := v36) h358 (by omega) (by omega)).2.1
                                obtain ⟨_, u363f, u363t⟩ := tm_ge.el h358 (I343.keepG I0.1 h_Lf (by decide) g82)
                                have t_z364 : T305 a81 = some (0, 6, 0) := u363t
                                refine mv_callV_s (kc' := 0) (ks' := 0) [.int v36] [.int v36, .ref Lf] d_TrustDesk_fundAt_20 lV_TrustDesk_158 h358.1 rfl (tc_L_get (d := (d + 5)) h358.1 u363e (by omega) (by omega) u363i u363f) rfl (Nat.le_of_ble_eq_true rfl) (Nat.le_of_ble_eq_true rfl) (Nat.le_of_ble_eq_true rfl) rfl ?_
                                obtain ⟨_, b365, -⟩ := I343.1 _ _ t_z364
                                refine mv_castS (T9 := kF_Fund) (N := 15) d_TrustDesk_fundAt_23 (mj_in1 (List.mem_of_getElem? (i := 655) (by decide +kernel)) rfl) b365 rfl ?_
                                refine mv_goto (tgt := 30) d_TrustDesk_fundAt_26 (by decide) ?_
                                refine mv_aret (r := (some a81)) d_TrustDesk_fundAt_30 rfl (by first | exact Or.inl ⟨_, rfl⟩ | exact Or.inr ⟨_, rfl⟩) ?_
                                refine mv_astore_n (lv' := [(2, .ref a81), (0, .ref o0), (1, .ref a15)]) d_TrustDesk_carryOut_8 rfl (by decide) rfl ?_
                                refine mv_aload_n d_TrustDesk_carryOut_9 rfl rfl ?_
                                refine mv_ifnonnull (tgt := 14) d_TrustDesk_carryOut_10 (by decide) ?_
                                refine mv_aload_n d_TrustDesk_carryOut_14 rfl rfl ?_
                                refine tr_getK (k := 0) (K345 _ 11 0 _ rfl (K338 _ 11 0 _ rfl q331)) d_TrustDesk_carryOut_15 f_TrustDesk_308_11 ?_
                                refine mv_tableOut (tgt := 88) d_TrustDesk_carryOut_18 b92 (by decide) ?_
                                refine mv_aload_n d_TrustDesk_carryOut_88 rfl rfl ?_
                                refine mv_aload_n d_TrustDesk_carryOut_89 rfl rfl ?_
                                refine mv_aload_n d_TrustDesk_carryOut_90 rfl rfl ?_
                                refine tr_getK (k := 2) (K345 _ 11 2 _ rfl (K338 _ 11 2 _ rfl q332)) d_TrustDesk_carryOut_91 f_TrustDesk_311_11 ?_
                                obtain ⟨_, b372, -⟩ := I343.1 _ _ t_z364
                                refine mv_callV (kc' := 0) (ks' := 0) (As := [.int v94]) (st9 := [.int v94, .ref a81, .ref o0]) d_TrustDesk_carryOut_94 lV_TrustDesk_359 b372 rfl (tc_Fund_endAt (d := (d + 5)) (x9 := x9) (o0 := a81) (x1 := v94) t_z364 I343.start) rfl (Nat.le_of_ble_eq_true rfl) (Nat.le_of_ble_eq_true rfl) (Nat.le_of_ble_eq_true rfl) (hst := rfl) (fun b366r M367 n368 b366 => ?_)
                                obtain ⟨T369, J370, b374⟩ := b366
                                have I371 := I343.call J370 (tm_sub (by decide)) (Or.inl rfl)
                                have t375 := J370.up t_z364
                                have t376 := J370.up t314
                                have t377 := J370.up t315
                                have K378 : ∀ (a o : Nat) (w : Value), T0 a = some (3, 3, o) → tm_at M0 a 0 2 w → tm_at M367 a 0 2 w := fun a o w h q => J370.keepL (I343.up h) (by decide) (K346 a o w h q)
                                have K379 : ∀ (a : Nat) (w : Value), T0 a = some (0, 6, 0) → tm_at M0 a 6 8 w → tm_at M367 a 6 8 w := fun a w h q => J370.keep (I343.up h) (by decide) (K347 a w h q)
                                have K380 : ∀ (a : Nat) (w : Value), T0 a = some (0, 11, 0) → a ≠ a15 → tm_at M0 a 11 5 w → tm_at M367 a 11 5 w := fun a w h hx q => J370.keep (I343.up h) (by decide) (K348 a w h hx q)
                                have q381 := J370.keep t314 (by decide) (K345 _ 12 6 _ rfl (K338 _ 12 6 _ rfl q319))
                                have t382 := J370.up t320
                                have q383 := J370.keep t314 (by decide) (K345 _ 12 8 _ rfl (K338 _ 12 8 _ rfl q321))
                                have t384 := J370.up t322
                                have q385 := J370.keepL t322 (by decide) (K345 _ 0 2 _ rfl (K338 _ 0 2 _ rfl q323))
                                have q386 := J370.keep t314 (by decide) (K345 _ 12 12 _ rfl (K338 _ 12 12 _ rfl q324))
                                have q387 := J370.keep t315 (by decide) (K345 _ 11 4 _ rfl (K338 _ 11 4 _ rfl q325))
                                have q388 := J370.keep t315 (by decide) (K345 _ 11 7 _ rfl (K338 _ 11 7 _ rfl q327))
                                have q389 := J370.keep t315 (by decide) (K345 _ 11 1 _ rfl (K338 _ 11 1 _ rfl q328))
                                have q390 := J370.keepL t320 (by decide) (K345 _ 0 2 _ rfl (K338 _ 0 2 _ rfl q329))
                                have q391 := J370.keep t313 (by decide) (K345 _ 6 8 _ rfl (K338 _ 6 8 _ rfl q330))
                                have q392 := J370.keep t315 (by decide) (K345 _ 11 0 _ rfl (K338 _ 11 0 _ rfl q331))
                                have q393 := J370.keep t315 (by decide) (K345 _ 11 2 _ rfl (K338 _ 11 2 _ rfl q332))
                                have q394 := J370.keep t315 (by decide) (K345 _ 11 6 _ rfl q337)
                                have q395 := J370.keep t315 (by decide) q344
                                rcases b374 with rfl | ⟨a373, rfl, t_a373⟩
                                · obtain ⟨_, b402, -⟩ := I371.1 _ _ t376
                                  refine mv_callV (kc' := 0) (ks' := 0) (As := [.null]) (st9 := [.null, .ref o0]) d_TrustDesk_carryOut_97 lV_TrustDesk_403 b402 rfl (tc_TrustDesk_strike_n1 (d := (d + 8)) (x9 := x9) (o0 := o0) t376 I371.start) rfl (Nat.le_of_ble_eq_true rfl) (Nat.le_of_ble_eq_true rfl) (Nat.le_of_ble_eq_true rfl) (hst := rfl) (fun b396r M397 n398 b396 => ?_)
                                  obtain ⟨T399, J400, rfl⟩ := b396
                                  have I401 := I371.call J400 (tm_sub (by decide)) (Or.inl rfl)
                                  have t403 := J400.up t375
                                  have t404 := J400.up t376
                                  have t405 := J400.up t377
                                  have K406 : ∀ (a o : Nat) (w : Value), T0 a = some (3, 3, o) → tm_at M0 a 0 2 w → tm_at M397 a 0 2 w := fun a o w h q => J400.keepL (I371.up h) (by decide) (K378 a o w h q)
                                  have K407 : ∀ (a : Nat) (w : Value), T0 a = some (0, 6, 0) → tm_at M0 a 6 8 w → tm_at M397 a 6 8 w := fun a w h q => J400.keep (I371.up h) (by decide) (K379 a w h q)
                                  have K408 : ∀ (a : Nat) (w : Value), T0 a = some (0, 11, 0) → a ≠ a15 → tm_at M0 a 11 5 w → tm_at M397 a 11 5 w := fun a w h hx q => J400.keep (I371.up h) (by decide) (K380 a w h hx q)
                                  have q409 := J400.keep t376 (by decide) q381
                                  have t410 := J400.up t382
                                  have q411 := J400.keep t376 (by decide) q383
                                  have t412 := J400.up t384
                                  have q413 := J400.keepL t384 (by decide) q385
                                  have q414 := J400.keep t376 (by decide) q386
                                  have q415 := J400.keep t377 (by decide) q387
                                  have q416 := J400.keep t377 (by decide) q388
                                  have q417 := J400.keep t377 (by decide) q389
                                  have q418 := J400.keepL t382 (by decide) q390
                                  have q419 := J400.keep t375 (by decide) q391
                                  have q420 := J400.keep t377 (by decide) q392
                                  have q421 := J400.keep t377 (by decide) q393
                                  have q422 := J400.keep t377 (by decide) q394
                                  have q423 := J400.keep t377 (by decide) q395
                                  refine mv_vret d_TrustDesk_carryOut_100 rfl ?_
                                  refine mv_iload_n d_TrustDesk_settle_63 rfl rfl ?_
                                  exact mv_iret d_TrustDesk_settle_64 rfl (by first | rfl | decide) ⟨_, I401, _, rfl, (Or.inl ⟨K406, K407⟩), Or.inr ⟨by omega, _, _, g16, q423, by decide, K408⟩⟩
                                · obtain ⟨_, b430, -⟩ := I371.1 _ _ t376
                                  refine mv_callV (kc' := 0) (ks' := 0) (As := [.ref a373]) (st9 := [.ref a373, .ref o0]) d_TrustDesk_carryOut_97 lV_TrustDesk_403 b430 rfl (tc_TrustDesk_strike (d := (d + 8)) (x9 := x9) (o0 := o0) (o1 := a373) t376 t_a373 I371.start) rfl (Nat.le_of_ble_eq_true rfl) (Nat.le_of_ble_eq_true rfl) (Nat.le_of_ble_eq_true rfl) (hst := rfl) (fun b424r M425 n426 b424 => ?_)
                                  obtain ⟨T427, J428, rfl⟩ := b424
                                  have I429 := I371.call J428 (tm_sub (by decide)) (Or.inl rfl)
                                  have t431 := J428.up t375
                                  have t432 := J428.up t376
                                  have t433 := J428.up t377
                                  have K434 : ∀ (a o : Nat) (w : Value), T0 a = some (3, 3, o) → tm_at M0 a 0 2 w → tm_at M425 a 0 2 w := fun a o w h q => J428.keepL (I371.up h) (by decide) (K378 a o w h q)
                                  have K435 : ∀ (a : Nat) (w : Value), T0 a = some (0, 6, 0) → tm_at M0 a 6 8 w → tm_at M425 a 6 8 w := fun a w h q => J428.keep (I371.up h) (by decide) (K379 a w h q)
                                  have K436 : ∀ (a : Nat) (w : Value), T0 a = some (0, 11, 0) → a ≠ a15 → tm_at M0 a 11 5 w → tm_at M425 a 11 5 w := fun a w h hx q => J428.keep (I371.up h) (by decide) (K380 a w h hx q)
                                  have q437 := J428.keep t376 (by decide) q381
                                  have t438 := J428.up t382
                                  have q439 := J428.keep t376 (by decide) q383
                                  have t440 := J428.up t384
                                  have q441 := J428.keepL t384 (by decide) q385
                                  have q442 := J428.keep t376 (by decide) q386
                                  have q443 := J428.keep t377 (by decide) q387
                                  have q444 := J428.keep t377 (by decide) q388
                                  have q445 := J428.keep t377 (by decide) q389
                                  have q446 := J428.keepL t382 (by decide) q390
                                  have q447 := J428.keep t375 (by decide) q391
                                  have q448 := J428.keep t377 (by decide) q392
                                  have q449 := J428.keep t377 (by decide) q393
                                  have q450 := J428.keep t377 (by decide) q394
                                  have q451 := J428.keep t377 (by decide) q395
                                  refine mv_vret d_TrustDesk_carryOut_100 rfl ?_
                                  refine mv_iload_n d_TrustDesk_settle_63 rfl rfl ?_
                                  exact mv_iret d_TrustDesk_settle_64 rfl (by first | rfl | decide) ⟨_, I429, _, rfl, (Or.inl ⟨K434, K435⟩), Or.inr ⟨by omega, _, _, g16, q451, by decide, K436⟩⟩
                            · refine mv_iconst (v := 5) d_TrustDesk_failureOf_85 (by decide) ?_
                              refine mv_goto (tgt := 90) d_TrustDesk_failureOf_86 (by decide) ?_
                              refine mv_iret d_TrustDesk_failureOf_90 rfl (by first | rfl | decide) ?_
                              refine mv_istore_n (lv' := [(3, .int 5), (2, .ref a15), (0, .ref o0), (1, .int x1)]) d_TrustDesk_settle_35 rfl (by decide) rfl ?_
                              refine mv_aload_n d_TrustDesk_settle_36 rfl rfl ?_
                              refine mv_iload_n d_TrustDesk_settle_37 rfl rfl ?_
                              refine tr_putKM tm_okF I307 t315 (k := 6) rfl ⟨_, rfl⟩ (Or.inl (by decide)) d_TrustDesk_settle_38 p_TrustDesk_318_11 rfl rfl (fun M452 I453 q454 K455 K455M => ?_)
                              have K456 : ∀ (a o : Nat) (w : Value), T0 a = some (3, 3, o) → tm_at M0 a 0 2 w → tm_at M452 a 0 2 w := fun a o w h q => K455 _ 0 2 _ rfl (K316 a o w h q)
                              have K457 : ∀ (a : Nat) (w : Value), T0 a = some (0, 6, 0) → tm_at M0 a 6 8 w → tm_at M452 a 6 8 w := fun a w h q => K455 _ 6 8 _ rfl (K317 a w h q)
                              have K458 : ∀ (a : Nat) (w : Value), T0 a = some (0, 11, 0) → tm_at M0 a 11 5 w → tm_at M452 a 11 5 w := fun a w h q => K455 _ 11 5 _ rfl (K318 a w h q)
                              refine mv_aload_n d_TrustDesk_settle_41 rfl rfl ?_
                              refine mv_iload_n d_TrustDesk_settle_42 rfl rfl ?_
                              refine mv_if_ne_t (tgt := 50) d_TrustDesk_settle_43 (by decide) (by decide) ?_
                              refine mv_iconst (v := 2) d_TrustDesk_settle_50 (by decide) ?_
                              refine tr_putKM tm_okF I453 t315 (k := 5) rfl ⟨_, rfl⟩ (Or.inl (by decide)) d_TrustDesk_settle_51 p_TrustDesk_284_11 rfl rfl (fun M459 I460 q461 K462 K462M => ?_)
                              have K463 : ∀ (a o : Nat) (w : Value), T0 a = some (3, 3, o) → tm_at M0 a 0 2 w → tm_at M459 a 0 2 w := fun a o w h q => K462 _ 0 2 _ rfl (K456 a o w h q)
                              have K464 : ∀ (a : Nat) (w : Value), T0 a = some (0, 6, 0) → tm_at M0 a 6 8 w → tm_at M459 a 6 8 w := fun a w h q => K462 _ 6 8 _ rfl (K457 a w h q)
                              have K465 : ∀ (a : Nat) (w : Value), T0 a = some (0, 11, 0) → a ≠ a15 → tm_at M0 a 11 5 w → tm_at M459 a 11 5 w := fun a w h hx q => tm_at.eq (K462M _ hx) (K458 a w h q)
                              refine mv_iload_n d_TrustDesk_settle_54 rfl rfl ?_
                              refine mv_if_ne_t (tgt := 63) d_TrustDesk_settle_55 (by decide) (by decide) ?_
                              refine mv_iload_n d_TrustDesk_settle_63 rfl rfl ?_
                              exact mv_iret d_TrustDesk_settle_64 rfl (by first | rfl | decide) ⟨_, I460, _, rfl, (Or.inl ⟨K463, K464⟩), Or.inr ⟨by omega, _, _, g16, q461, by decide, K465⟩⟩
                          · refine mv_iconst (v := 4) d_TrustDesk_failureOf_76 (by decide) ?_
                            refine mv_iret d_TrustDesk_failureOf_77 rfl (by first | rfl | decide) ?_
                            refine mv_istore_n (lv' := [(3, .int 4), (2, .ref a15), (0, .ref o0), (1, .int x1)]) d_TrustDesk_settle_35 rfl (by decide) rfl ?_
                            refine mv_aload_n d_TrustDesk_settle_36 rfl rfl ?_
                            refine mv_iload_n d_TrustDesk_settle_37 rfl rfl ?_
                            refine tr_putKM tm_okF I307 t315 (k := 6) rfl ⟨_, rfl⟩ (Or.inl (by decide)) d_TrustDesk_settle_38 p_TrustDesk_318_11 rfl rfl (fun M466 I467 q468 K469 K469M => ?_)
                            have K470 : ∀ (a o : Nat) (w : Value), T0 a = some (3, 3, o) → tm_at M0 a 0 2 w → tm_at M466 a 0 2 w := fun a o w h q => K469 _ 0 2 _ rfl (K316 a o w h q)
                            have K471 : ∀ (a : Nat) (w : Value), T0 a = some (0, 6, 0) → tm_at M0 a 6 8 w → tm_at M466 a 6 8 w := fun a w h q => K469 _ 6 8 _ rfl (K317 a w h q)
                            have K472 : ∀ (a : Nat) (w : Value), T0 a = some (0, 11, 0) → tm_at M0 a 11 5 w → tm_at M466 a 11 5 w := fun a w h q => K469 _ 11 5 _ rfl (K318 a w h q)
                            refine mv_aload_n d_TrustDesk_settle_41 rfl rfl ?_
                            refine mv_iload_n d_TrustDesk_settle_42 rfl rfl ?_
                            refine mv_if_ne_t (tgt := 50) d_TrustDesk_settle_43 (by decide) (by decide) ?_
                            refine mv_iconst (v := 2) d_TrustDesk_settle_50 (by decide) ?_
                            refine tr_putKM tm_okF I467 t315 (k := 5) rfl ⟨_, rfl⟩ (Or.inl (by decide)) d_TrustDesk_settle_51 p_TrustDesk_284_11 rfl rfl (fun M473 I474 q475 K476 K476M => ?_)
                            have K477 : ∀ (a o : Nat) (w : Value), T0 a = some (3, 3, o) → tm_at M0 a 0 2 w → tm_at M473 a 0 2 w := fun a o w h q => K476 _ 0 2 _ rfl (K470 a o w h q)
                            have K478 : ∀ (a : Nat) (w : Value), T0 a = some (0, 6, 0) → tm_at M0 a 6 8 w → tm_at M473 a 6 8 w := fun a w h q => K476 _ 6 8 _ rfl (K471 a w h q)
                            have K479 : ∀ (a : Nat) (w : Value), T0 a = some (0, 11, 0) → a ≠ a15 → tm_at M0 a 11 5 w → tm_at M473 a 11 5 w := fun a w h hx q => tm_at.eq (K476M _ hx) (K472 a w h q)
                            refine mv_iload_n d_TrustDesk_settle_54 rfl rfl ?_
                            refine mv_if_ne_t (tgt := 63) d_TrustDesk_settle_55 (by decide) (by decide) ?_
                            refine mv_iload_n d_TrustDesk_settle_63 rfl rfl ?_
                            exact mv_iret d_TrustDesk_settle_64 rfl (by first | rfl | decide) ⟨_, I474, _, rfl, (Or.inl ⟨K477, K478⟩), Or.inr ⟨by omega, _, _, g16, q475, by decide, K479⟩⟩
                        · refine mv_iconst (v := 3) d_TrustDesk_failureOf_65 (by decide) ?_
                          refine mv_iret d_TrustDesk_failureOf_66 rfl (by first | rfl | decide) ?_
                          refine mv_istore_n (lv' := [(3, .int 3), (2, .ref a15), (0, .ref o0), (1, .int x1)]) d_TrustDesk_settle_35 rfl (by decide) rfl ?_
                          refine mv_aload_n d_TrustDesk_settle_36 rfl rfl ?_
                          refine mv_iload_n d_TrustDesk_settle_37 rfl rfl ?_
                          refine tr_putKM tm_okF I277 t283 (k := 6) rfl ⟨_, rfl⟩ (Or.inl (by decide)) d_TrustDesk_settle_38 p_TrustDesk_318_11 rfl rfl (fun M480 I481 q482 K483 K483M => ?_)
                          have K484 : ∀ (a o : Nat) (w : Value), T0 a = some (3, 3, o) → tm_at M0 a 0 2 w → tm_at M480 a 0 2 w := fun a o w h q => K483 _ 0 2 _ rfl (K284 a o w h q)
                          have K485 : ∀ (a : Nat) (w : Value), T0 a = some (0, 6, 0) → tm_at M0 a 6 8 w → tm_at M480 a 6 8 w := fun a w h q => K483 _ 6 8 _ rfl (K285 a w h q)
                          have K486 : ∀ (a : Nat) (w : Value), T0 a = some (0, 11, 0) → tm_at M0 a 11 5 w → tm_at M480 a 11 5 w := fun a w h q => K483 _ 11 5 _ rfl (K286 a w h q)
                          refine mv_aload_n d_TrustDesk_settle_41 rfl rfl ?_
                          refine mv_iload_n d_TrustDesk_settle_42 rfl rfl ?_
                          refine mv_if_ne_t (tgt := 50) d_TrustDesk_settle_43 (by decide) (by decide) ?_
                          refine mv_iconst (v := 2) d_TrustDesk_settle_50 (by decide) ?_
                          refine tr_putKM tm_okF I481 t283 (k := 5) rfl ⟨_, rfl⟩ (Or.inl (by decide)) d_TrustDesk_settle_51 p_TrustDesk_284_11 rfl rfl (fun M487 I488 q489 K490 K490M => ?_)
                          have K491 : ∀ (a o : Nat) (w : Value), T0 a = some (3, 3, o) → tm_at M0 a 0 2 w → tm_at M487 a 0 2 w := fun a o w h q => K490 _ 0 2 _ rfl (K484 a o w h q)
                          have K492 : ∀ (a : Nat) (w : Value), T0 a = some (0, 6, 0) → tm_at M0 a 6 8 w → tm_at M487 a 6 8 w := fun a w h q => K490 _ 6 8 _ rfl (K485 a w h q)
                          have K493 : ∀ (a : Nat) (w : Value), T0 a = some (0, 11, 0) → a ≠ a15 → tm_at M0 a 11 5 w → tm_at M487 a 11 5 w := fun a w h hx q => tm_at.eq (K490M _ hx) (K486 a w h q)
                          refine mv_iload_n d_TrustDesk_settle_54 rfl rfl ?_
                          refine mv_if_ne_t (tgt := 63) d_TrustDesk_settle_55 (by decide) (by decide) ?_
                          refine mv_iload_n d_TrustDesk_settle_63 rfl rfl ?_
                          exact mv_iret d_TrustDesk_settle_64 rfl (by first | rfl | decide) ⟨_, I488, _, rfl, (Or.inl ⟨K491, K492⟩), Or.inr ⟨by omega, _, _, g16, q489, by decide, K493⟩⟩
                      · refine mv_iconst (v := 2) d_TrustDesk_failureOf_46 (by decide) ?_
                        refine mv_iret d_TrustDesk_failureOf_47 rfl (by first | rfl | decide) ?_
                        refine mv_istore_n (lv' := [(3, .int 2), (2, .ref a15), (0, .ref o0), (1, .int x1)]) d_TrustDesk_settle_35 rfl (by decide) rfl ?_
                        refine mv_aload_n d_TrustDesk_settle_36 rfl rfl ?_
                        refine mv_iload_n d_TrustDesk_settle_37 rfl rfl ?_
                        refine tr_putKM tm_okF I188 t196 (k := 6) rfl ⟨_, rfl⟩ (Or.inl (by decide)) d_TrustDesk_settle_38 p_TrustDesk_318_11 rfl rfl (fun M494 I495 q496 K497 K497M => ?_)
                        have K498 : ∀ (a o : Nat) (w : Value), T0 a = some (3, 3, o) → tm_at M0 a 0 2 w → tm_at M494 a 0 2 w := fun a o w h q => K497 _ 0 2 _ rfl (K197 a o w h q)
                        have K499 : ∀ (a : Nat) (w : Value), T0 a = some (0, 6, 0) → tm_at M0 a 6 8 w → tm_at M494 a 6 8 w := fun a w h q => K497 _ 6 8 _ rfl (K198 a w h q)
                        have K500 : ∀ (a : Nat) (w : Value), T0 a = some (0, 11, 0) → tm_at M0 a 11 5 w → tm_at M494 a 11 5 w := fun a w h q => K497 _ 11 5 _ rfl (K199 a w h q)
                        refine mv_aload_n d_TrustDesk_settle_41 rfl rfl ?_
                        refine mv_iload_n d_TrustDesk_settle_42 rfl rfl ?_
                        refine mv_if_ne_t (tgt := 50) d_TrustDesk_settle_43 (by decide) (by decide) ?_
                        refine mv_iconst (v := 2) d_TrustDesk_settle_50 (by decide) ?_
                        refine tr_putKM tm_okF I495 t196 (k := 5) rfl ⟨_, rfl⟩ (Or.inl (by decide)) d_TrustDesk_settle_51 p_TrustDesk_284_11 rfl rfl (fun M501 I502 q503 K504 K504M => ?_)
                        have K505 : ∀ (a o : Nat) (w : Value), T0 a = some (3, 3, o) → tm_at M0 a 0 2 w → tm_at M501 a 0 2 w := fun a o w h q => K504 _ 0 2 _ rfl (K498 a o w h q)
                        have K506 : ∀ (a : Nat) (w : Value), T0 a = some (0, 6, 0) → tm_at M0 a 6 8 w → tm_at M501 a 6 8 w := fun a w h q => K504 _ 6 8 _ rfl (K499 a w h q)
                        have K507 : ∀ (a : Nat) (w : Value), T0 a = some (0, 11, 0) → a ≠ a15 → tm_at M0 a 11 5 w → tm_at M501 a 11 5 w := fun a w h hx q => tm_at.eq (K504M _ hx) (K500 a w h q)
                        refine mv_iload_n d_TrustDesk_settle_54 rfl rfl ?_
                        refine mv_if_ne_t (tgt := 63) d_TrustDesk_settle_55 (by decide) (by decide) ?_
                        refine mv_iload_n d_TrustDesk_settle_63 rfl rfl ?_
                        exact mv_iret d_TrustDesk_settle_64 rfl (by first | rfl | decide) ⟨_, I502, _, rfl, (Or.inl ⟨K505, K506⟩), Or.inr ⟨by omega, _, _, g16, q503, by decide, K507⟩⟩
                · refine mv_tableIn (tgt := 40) (off := 27) d_TrustDesk_canBe_13 (by omega) (by omega) (by rw [b92]; rfl) (by decide) ?_
                  refine mv_aload_n d_TrustDesk_canBe_40 rfl rfl ?_
                  obtain ⟨_, b514, -⟩ := I0.1 _ _ t_z83
                  refine mv_callV (kc' := 0) (ks' := 0) (As := []) (st9 := [.ref a81]) d_TrustDesk_canBe_41 lV_TrustDesk_348 b514 rfl (tc_Fund_firstDead (d := (d + 4)) (x9 := x9) (o0 := a81) t_z83 I0.start) rfl (Nat.le_of_ble_eq_true rfl) (Nat.le_of_ble_eq_true rfl) (Nat.le_of_ble_eq_true rfl) (hst := rfl) (fun b508r M509 n510 b508 => ?_)
                  obtain ⟨T511, J512, b516⟩ := b508
                  have I513 := I0.call J512 (tm_sub (by decide)) (Or.inl rfl)
                  have t517 := J512.up h_o0
                  have t518 := J512.up t_a15
                  have t519 := J512.up t_z83
                  have K520 : ∀ (a o : Nat) (w : Value), T0 a = some (3, 3, o) → tm_at M0 a 0 2 w → tm_at M509 a 0 2 w := fun a o w h q => J512.keepL (I0.up h) (by decide) (K0L a o w h q)
                  have K521 : ∀ (a : Nat) (w : Value), T0 a = some (0, 6, 0) → tm_at M0 a 6 8 w → tm_at M509 a 6 8 w := fun a w h q => J512.keep (I0.up h) (by decide) (K0J a w h q)
                  have K522 : ∀ (a : Nat) (w : Value), T0 a = some (0, 11, 0) → tm_at M0 a 11 5 w → tm_at M509 a 11 5 w := fun a w h q => J512.keep (I0.up h) (by decide) (K0Z a w h q)
                  have q523 := J512.keep h_o0 (by decide) q_Lf
                  have t524 := J512.up h_Lf
                  have q525 := J512.keep h_o0 (by decide) q_Ls
                  have t526 := J512.up h_Ls
                  have q527 := J512.keepL h_Ls (by decide) yks
                  have q528 := J512.keep h_o0 (by decide) yt
                  have q529 := J512.keep t_a15 (by decide) q23
                  have q530 := J512.keep t_a15 (by decide) q25
                  have q531 := J512.keep t_a15 (by decide) q27
                  have q532 := J512.keep t_a15 (by decide) q35
                  have q533 := J512.keepL h_Lf (by decide) q59
                  have q534 := J512.keep t_z83 (by decide) q87
                  have q535 := J512.keep t_a15 (by decide) q90
                  rcases b516 with rfl | ⟨a515, rfl, t_a515⟩
                  · refine mv_ifnullN (tgt := 51) d_TrustDesk_canBe_44 (by decide) ?_
                    refine mv_iconst (v := 0) d_TrustDesk_canBe_51 (by decide) ?_
                    refine mv_iret d_TrustDesk_canBe_52 rfl (by decide) ?_
                    refine mv_if_ne_f (tgt := 24) d_TrustDesk_failureOf_19 (by decide) (by decide) ?_
                    refine mv_iconst (v := 1) d_TrustDesk_failureOf_22 (by decide) ?_
                    refine mv_iret d_TrustDesk_failureOf_23 rfl (by first | rfl | decide) ?_
                    refine mv_istore_n (lv' := [(3, .int 1), (2, .ref a15), (0, .ref o0), (1, .int x1)]) d_TrustDesk_settle_35 rfl (by decide) rfl ?_
                    refine mv_aload_n d_TrustDesk_settle_36 rfl rfl ?_
                    refine mv_iload_n d_TrustDesk_settle_37 rfl rfl ?_
                    refine tr_putKM tm_okF I513 t518 (k := 6) rfl ⟨_, rfl⟩ (Or.inl (by decide)) d_TrustDesk_settle_38 p_TrustDesk_318_11 rfl rfl (fun M536 I537 q538 K539 K539M => ?_)
                    have K540 : ∀ (a o : Nat) (w : Value), T0 a = some (3, 3, o) → tm_at M0 a 0 2 w → tm_at M536 a 0 2 w := fun a o w h q => K539 _ 0 2 _ rfl (K520 a o w h q)
                    have K541 : ∀ (a : Nat) (w : Value), T0 a = some (0, 6, 0) → tm_at M0 a 6 8 w → tm_at M536 a 6 8 w := fun a w h q => K539 _ 6 8 _ rfl (K521 a w h q)
                    have K542 : ∀ (a : Nat) (w : Value), T0 a = some (0, 11, 0) → tm_at M0 a 11 5 w → tm_at M536 a 11 5 w := fun a w h q => K539 _ 11 5 _ rfl (K522 a w h q)
                    refine mv_aload_n d_TrustDesk_settle_41 rfl rfl ?_
                    refine mv_iload_n d_TrustDesk_settle_42 rfl rfl ?_
                    refine mv_if_ne_t (tgt := 50) d_TrustDesk_settle_43 (by decide) (by decide) ?_
                    refine mv_iconst (v := 2) d_TrustDesk_settle_50 (by decide) ?_
                    refine tr_putKM tm_okF I537 t518 (k := 5) rfl ⟨_, rfl⟩ (Or.inl (by decide)) d_TrustDesk_settle_51 p_TrustDesk_284_11 rfl rfl (fun M543 I544 q545 K546 K546M => ?_)
                    have K547 : ∀ (a o : Nat) (w : Value), T0 a = some (3, 3, o) → tm_at M0 a 0 2 w → tm_at M543 a 0 2 w := fun a o w h q => K546 _ 0 2 _ rfl (K540 a o w h q)
                    have K548 : ∀ (a : Nat) (w : Value), T0 a = some (0, 6, 0) → tm_at M0 a 6 8 w → tm_at M543 a 6 8 w := fun a w h q => K546 _ 6 8 _ rfl (K541 a w h q)
                    have K549 : ∀ (a : Nat) (w : Value), T0 a = some (0, 11, 0) → a ≠ a15 → tm_at M0 a 11 5 w → tm_at M543 a 11 5 w := fun a w h hx q => tm_at.eq (K546M _ hx) (K542 a w h q)
                    refine mv_iload_n d_TrustDesk_settle_54 rfl rfl ?_
                    refine mv_if_ne_t (tgt := 63) d_TrustDesk_settle_55 (by decide) (by decide) ?_
                    refine mv_iload_n d_TrustDesk_settle_63 rfl rfl ?_
                    exact mv_iret d_TrustDesk_settle_64 rfl (by first | rfl | decide) ⟨_, I544, _, rfl, (Or.inl ⟨K547, K548⟩), Or.inr ⟨by omega, _, _, g16, q545, by decide, K549⟩⟩
                  · refine mv_ifnull d_TrustDesk_canBe_44 ?_
                    refine mv_iconst (v := 1) d_TrustDesk_canBe_47 (by decide) ?_
                    refine mv_goto (tgt := 52) d_TrustDesk_canBe_48 (by decide) ?_
                    refine mv_iret d_TrustDesk_canBe_52 rfl (by decide) ?_
                    refine mv_if_ne_t (tgt := 24) d_TrustDesk_failureOf_19 (by decide) (by decide) ?_
                    refine mv_aload_n d_TrustDesk_failureOf_24 rfl rfl ?_
                    refine mv_aload_n d_TrustDesk_failureOf_25 rfl rfl ?_
                    refine tr_getK (k := 12) q528 d_TrustDesk_failureOf_26 f_TrustDesk_73_12 ?_
                    obtain ⟨_, b556, -⟩ := I513.1 _ _ t517
                    refine mv_callV (kc' := 0) (ks' := 0) (As := [.int t]) (st9 := [.int t, .ref o0]) d_TrustDesk_failureOf_29 lV_TrustDesk_114 b556 rfl (tc_TrustDesk_inForce (d := (d + 5)) (x9 := x9) (o0 := o0) (x1 := t) t517 I513.start) rfl (Nat.le_of_ble_eq_true rfl) (Nat.le_of_ble_eq_true rfl) (Nat.le_of_ble_eq_true rfl) (hst := rfl) (fun b550r M551 n552 b550 => ?_)
                    obtain ⟨T553, J554, a557, rfl, t_a557⟩ := b550
                    have I555 := I513.call J554 (tm_sub (by decide)) (Or.inl rfl)
                    have t558 := J554.up t519
                    have t559 := J554.up t517
                    have t560 := J554.up t518
                    have K561 : ∀ (a o : Nat) (w : Value), T0 a = some (3, 3, o) → tm_at M0 a 0 2 w → tm_at M551 a 0 2 w := fun a o w h q => J554.keepL (I513.up h) (by decide) (K520 a o w h q)
                    have K562 : ∀ (a : Nat) (w : Value), T0 a = some (0, 6, 0) → tm_at M0 a 6 8 w → tm_at M551 a 6 8 w := fun a w h q => J554.keep (I513.up h) (by decide) (K521 a w h q)
                    have K563 : ∀ (a : Nat) (w : Value), T0 a = some (0, 11, 0) → tm_at M0 a 11 5 w → tm_at M551 a 11 5 w := fun a w h q => J554.keep (I513.up h) (by decide) (K522 a w h q)
                    have q564 := J554.keep t517 (by decide) q523
                    have t565 := J554.up t524
                    have q566 := J554.keep t517 (by decide) q525
                    have t567 := J554.up t526
                    have q568 := J554.keepL t526 (by decide) q527
                    have q569 := J554.keep t517 (by decide) q528
                    have q570 := J554.keep t518 (by decide) q529
                    have q571 := J554.keep t518 (by decide) q530
                    have q572 := J554.keep t518 (by decide) q531
                    have q573 := J554.keep t518 (by decide) q532
                    have q574 := J554.keepL t524 (by decide) q533
                    have q575 := J554.keep t519 (by decide) q534
                    have q576 := J554.keep t518 (by decide) q535
                    refine mv_astore_n (lv' := [(3, .ref a557), (2, .ref a81), (0, .ref o0), (1, .ref a15)]) d_TrustDesk_failureOf_32 rfl (by decide) rfl ?_
                    refine mv_aload_n d_TrustDesk_failureOf_33 rfl rfl ?_
                    refine mv_aload_n d_TrustDesk_failureOf_34 rfl rfl ?_
                    refine tr_getK (k := 0) q576 d_TrustDesk_failureOf_35 f_TrustDesk_308_11 ?_
                    refine mv_aload_n d_TrustDesk_failureOf_38 rfl rfl ?_
                    refine mv_aload_n d_TrustDesk_failureOf_39 rfl rfl ?_
                    obtain ⟨_, b583, -⟩ := I555.1 _ _ t559
                    refine mv_callV (kc' := 0) (ks' := 0) (As := [.int v91, .ref a81, .ref a557]) (st9 := [.ref a557, .ref a81, .int v91, .ref o0]) d_TrustDesk_failureOf_40 lV_TrustDesk_329 b583 rfl (tc_TrustDesk_isBarred (d := (d + 4)) (x9 := x9) (o0 := o0) (x1 := v91) (o2 := a81) (o3 := a557) t559 t558 t_a557 I555.start) rfl (Nat.le_of_ble_eq_true rfl) (Nat.le_of_ble_eq_true rfl) (Nat.le_of_ble_eq_true rfl) (hst := rfl) (fun b577r M578 n579 b577 => ?_)
                    obtain ⟨T580, J581, v584, rfl, b585, b586⟩ := b577
                    have I582 := I555.call J581 (tm_sub (by decide)) (Or.inl rfl)
                    have t587 := J581.up t_a557
                    have t588 := J581.up t558
                    have t589 := J581.up t559
                    have t590 := J581.up t560
                    have K591 : ∀ (a o : Nat) (w : Value), T0 a = some (3, 3, o) → tm_at M0 a 0 2 w → tm_at M578 a 0 2 w := fun a o w h q => J581.keepL (I555.up h) (by decide) (K561 a o w h q)
                    have K592 : ∀ (a : Nat) (w : Value), T0 a = some (0, 6, 0) → tm_at M0 a 6 8 w → tm_at M578 a 6 8 w := fun a w h q => J581.keep (I555.up h) (by decide) (K562 a w h q)
                    have K593 : ∀ (a : Nat) (w : Value), T0 a = some (0, 11, 0) → tm_at M0 a 11 5 w → tm_at M578 a 11 5 w := fun a w h q => J581.keep (I555.up h) (by decide) (K563 a w h q)
                    have q594 := J581.keep t559 (by decide) q564
                    have t595 := J581.up t565
                    have q596 := J581.keep t559 (by decide) q566
                    have t597 := J581.up t567
                    have q598 := J581.keepL t567 (by decide) q568
                    have q599 := J581.keep t559 (by decide) q569
                    have q600 := J581.keep t560 (by decide) q570
                    have q601 := J581.keep t560 (by decide) q571
                    have q602 := J581.keep t560 (by decide) q572
                    have q603 := J581.keep t560 (by decide) q573
                    have q604 := J581.keepL t565 (by decide) q574
                    have q605 := J581.keep t558 (by decide) q575
                    have q606 := J581.keep t560 (by decide) q576
                    have := mz_hi v584
                    refine mv_if_eqZ (tgt := 48) (a := v584.toInt) d_TrustDesk_failureOf_43 (by decide) rfl (fun b607 => ?_) (fun b607 => ?_)
                    · refine mv_aload_n d_TrustDesk_failureOf_48 rfl rfl ?_
                      refine mv_aload_n d_TrustDesk_failureOf_49 rfl rfl ?_
                      refine mv_aload_n d_TrustDesk_failureOf_50 rfl rfl ?_
                      obtain ⟨_, b614, -⟩ := I582.1 _ _ t589
                      refine mv_callV (kc' := 0) (ks' := 0) (As := [.ref a15, .ref a81]) (st9 := [.ref a81, .ref a15, .ref o0]) d_TrustDesk_failureOf_51 lV_TrustDesk_333 b614 rfl (tc_TrustDesk_marksLeft (d := (d + 4)) (x9 := x9) (o0 := o0) (o1 := a15) (o2 := a81) t589 t590 t588 I582.start) rfl (Nat.le_of_ble_eq_true rfl) (Nat.le_of_ble_eq_true rfl) (Nat.le_of_ble_eq_true rfl) (hst := rfl) (fun b608r M609 n610 b608 => ?_)
                      obtain ⟨T611, J612, v615, rfl⟩ := b608
                      have I613 := I582.call J612 (tm_sub (by decide)) (Or.inl rfl)
                      have t616 := J612.up t587
                      have t617 := J612.up t588
                      have t618 := J612.up t589
                      have t619 := J612.up t590
                      have K620 : ∀ (a o : Nat) (w : Value), T0 a = some (3, 3, o) → tm_at M0 a 0 2 w → tm_at M609 a 0 2 w := fun a o w h q => J612.keepL (I582.up h) (by decide) (K591 a o w h q)
                      have K621 : ∀ (a : Nat) (w : Value), T0 a = some (0, 6, 0) → tm_at M0 a 6 8 w → tm_at M609 a 6 8 w := fun a w h q => J612.keep (I582.up h) (by decide) (K592 a w h q)
                      have K622 : ∀ (a : Nat) (w : Value), T0 a = some (0, 11, 0) → tm_at M0 a 11 5 w → tm_at M609 a 11 5 w := fun a w h q => J612.keep (I582.up h) (by decide) (K593 a w h q)
                      have q623 := J612.keep t589 (by decide) q594
                      have t624 := J612.up t595
                      have q625 := J612.keep t589 (by decide) q596
                      have t626 := J612.up t597
                      have q627 := J612.keepL t597 (by decide) q598
                      have q628 := J612.keep t589 (by decide) q599
                      have q629 := J612.keep t590 (by decide) q600
                      have q630 := J612.keep t590 (by decide) q601
                      have q631 := J612.keep t590 (by decide) q602
                      have q632 := J612.keep t590 (by decide) q603
                      have q633 := J612.keepL t595 (by decide) q604
                      have q634 := J612.keep t588 (by decide) q605
                      have q635 := J612.keep t590 (by decide) q606
                      refine mv_callS (kc' := 0) (ks' := 0) (As := [.int v615]) (st9 := [.int v615]) d_TrustDesk_failureOf_54 lS_TrustDesk_337 (tc_Integer_bitCount (d := (d + 8)) (x9 := x9) (x1 := v615)  I613.start) rfl (Nat.le_of_ble_eq_true rfl) (Nat.le_of_ble_eq_true rfl) (Nat.le_of_ble_eq_true rfl) (hst := rfl) (fun b636r M637 n638 b636 => ?_)
                      obtain ⟨T639, J640, v642, rfl⟩ := b636
                      have I641 := I613.call J640 (tm_sub (by decide)) (Or.inl rfl)
                      have t643 := J640.up t616
                      have t644 := J640.up t617
                      have t645 := J640.up t618
                      have t646 := J640.up t619
                      have K647 : ∀ (a o : Nat) (w : Value), T0 a = some (3, 3, o) → tm_at M0 a 0 2 w → tm_at M637 a 0 2 w := fun a o w h q => J640.keepL (I613.up h) (by decide) (K620 a o w h q)
                      have K648 : ∀ (a : Nat) (w : Value), T0 a = some (0, 6, 0) → tm_at M0 a 6 8 w → tm_at M637 a 6 8 w := fun a w h q => J640.keep (I613.up h) (by decide) (K621 a w h q)
                      have K649 : ∀ (a : Nat) (w : Value), T0 a = some (0, 11, 0) → tm_at M0 a 11 5 w → tm_at M637 a 11 5 w := fun a w h q => J640.keep (I613.up h) (by decide) (K622 a w h q)
                      have q650 := J640.keep t618 (by decide) q623
                      have t651 := J640.up t624
                      have q652 := J640.keep t618 (by decide) q625
                      have t653 := J640.up t626
                      have q654 := J640.keepL t626 (by decide) q627
                      have q655 := J640.keep t618 (by decide) q628
                      have q656 := J640.keep t619 (by decide) q629
                      have q657 := J640.keep t619 (by decide) q630
                      have q658 := J640.keep t619 (by decide) q631
                      have q659 := J640.keep t619 (by decide) q632
                      have q660 := J640.keepL t624 (by decide) q633
                      have q661 := J640.keep t617 (by decide) q634
                      have q662 := J640.keep t619 (by decide) q635
                      refine mv_aload_n d_TrustDesk_failureOf_57 rfl rfl ?_
                      refine mv_iconst (v := 1) d_TrustDesk_failureOf_58 (by decide) ?_
                      obtain ⟨_, b669, -⟩ := I641.1 _ _ t643
                      refine mv_callV (kc' := 0) (ks' := 0) (As := [.int 1]) (st9 := [.int 1, .ref a557, .int v642]) d_TrustDesk_failureOf_59 lV_TrustDesk_118 b669 rfl (tc_Act_rule (d := (d + 8)) (x9 := x9) (o0 := a557) (x1 := 1) t643 I641.start) rfl (Nat.le_of_ble_eq_true rfl) (Nat.le_of_ble_eq_true rfl) (Nat.le_of_ble_eq_true rfl) (hst := rfl) (fun b663r M664 n665 b663 => ?_)
                      obtain ⟨T666, J667, v670, rfl⟩ := b663
                      have I668 := I641.call J667 (tm_sub (by decide)) (Or.inl rfl)
                      have t671 := J667.up t643
                      have t672 := J667.up t644
                      have t673 := J667.up t645
                      have t674 := J667.up t646
                      have K675 : ∀ (a o : Nat) (w : Value), T0 a = some (3, 3, o) → tm_at M0 a 0 2 w → tm_at M664 a 0 2 w := fun a o w h q => J667.keepL (I641.up h) (by decide) (K647 a o w h q)
                      have K676 : ∀ (a : Nat) (w : Value), T0 a = some (0, 6, 0) → tm_at M0 a 6 8 w → tm_at M664 a 6 8 w := fun a w h q => J667.keep (I641.up h) (by decide) (K648 a w h q)
                      have K677 : ∀ (a : Nat) (w : Value), T0 a = some (0, 11, 0) → tm_at M0 a 11 5 w → tm_at M664 a 11 5 w := fun a w h q => J667.keep (I641.up h) (by decide) (K649 a w h q)
                      have q678 := J667.keep t645 (by decide) q650
                      have t679 := J667.up t651
                      have q680 := J667.keep t645 (by decide) q652
                      have t681 := J667.up t653
                      have q682 := J667.keepL t653 (by decide) q654
                      have q683 := J667.keep t645 (by decide) q655
                      have q684 := J667.keep t646 (by decide) q656
                      have q685 := J667.keep t646 (by decide) q657
                      have q686 := J667.keep t646 (by decide) q658
                      have q687 := J667.keep t646 (by decide) q659
                      have q688 := J667.keepL t651 (by decide) q660
                      have q689 := J667.keep t644 (by decide) q661
                      have q690 := J667.keep t646 (by decide) q662
                      have := mz_hi v642
                      have := mz_hi v670
                      refine mv_icmp_geZ (tgt := 67) (a := v642.toInt) (b := v670.toInt) d_TrustDesk_failureOf_62 (by decide) rfl rfl (fun b691 => ?_) (fun b691 => ?_)
                      · refine mv_aload_n d_TrustDesk_failureOf_67 rfl rfl ?_
                        refine mv_aload_n d_TrustDesk_failureOf_68 rfl rfl ?_
                        refine mv_aload_n d_TrustDesk_failureOf_69 rfl rfl ?_
                        obtain ⟨_, b698, -⟩ := I668.1 _ _ t673
                        refine mv_callV (kc' := 0) (ks' := 0) (As := [.ref a15, .ref a81]) (st9 := [.ref a81, .ref a15, .ref o0]) d_TrustDesk_failureOf_70 lV_TrustDesk_342 b698 rfl (tc_TrustDesk_isCarried (d := (d + 4)) (x9 := x9) (o0 := o0) (o1 := a15) (o2 := a81) t673 t674 t672 I668.start) rfl (Nat.le_of_ble_eq_true rfl) (Nat.le_of_ble_eq_true rfl) (Nat.le_of_ble_eq_true rfl) (hst := rfl) (fun b692r M693 n694 b692 => ?_)
                        obtain ⟨T695, J696, v699, rfl, b700, b701⟩ := b692
                        have I697 := I668.call J696 (tm_sub (by decide)) (Or.inl rfl)
                        have t702 := J696.up t671
                        have t703 := J696.up t672
                        have t704 := J696.up t673
                        have t705 := J696.up t674
                        have K706 : ∀ (a o : Nat) (w : Value), T0 a = some (3, 3, o) → tm_at M0 a 0 2 w → tm_at M693 a 0 2 w := fun a o w h q => J696.keepL (I668.up h) (by decide) (K675 a o w h q)
                        have K707 : ∀ (a : Nat) (w : Value), T0 a = some (0, 6, 0) → tm_at M0 a 6 8 w → tm_at M693 a 6 8 w := fun a w h q => J696.keep (I668.up h) (by decide) (K676 a w h q)
                        have K708 : ∀ (a : Nat) (w : Value), T0 a = some (0, 11, 0) → tm_at M0 a 11 5 w → tm_at M693 a 11 5 w := fun a w h q => J696.keep (I668.up h) (by decide) (K677 a w h q)
                        have q709 := J696.keep t673 (by decide) q678
                        have t710 := J696.up t679
                        have q711 := J696.keep t673 (by decide) q680
                        have t712 := J696.up t681
                        have q713 := J696.keepL t681 (by decide) q682
                        have q714 := J696.keep t673 (by decide) q683
                        have q715 := J696.keep t674 (by decide) q684
                        have q716 := J696.keep t674 (by decide) q685
                        have q717 := J696.keep t674 (by decide) q686
                        have q718 := J696.keep t674 (by decide) q687
                        have q719 := J696.keepL t679 (by decide) q688
                        have q720 := J696.keep t672 (by decide) q689
                        have q721 := J696.keep t674 (by decide) q690
                        have := mz_hi v699
                        refine mv_if_neZ (tgt := 78) (a := v699.toInt) d_TrustDesk_failureOf_73 (by decide) rfl (fun b722 => ?_) (fun b722 => ?_)
                        · refine mv_aload_n d_TrustDesk_failureOf_78 rfl rfl ?_
                          refine tr_getK (k := 7) q717 d_TrustDesk_failureOf_79 f_TrustDesk_345_11 ?_
                          have := mz_hi c22
                          refine mv_if_leZ (tgt := 89) (a := c22.toInt) d_TrustDesk_failureOf_82 (by decide) rfl (fun b723 => ?_) (fun b723 => ?_)
                          · refine mv_iconst (v := 0) d_TrustDesk_failureOf_89 (by decide) ?_
                            refine mv_iret d_TrustDesk_failureOf_90 rfl (by first | rfl | decide) ?_
                            refine mv_istore_n (lv' := [(3, .int 0), (2, .ref a15), (0, .ref o0), (1, .int x1)]) d_TrustDesk_settle_35 rfl (by decide) rfl ?_
                            refine mv_aload_n d_TrustDesk_settle_36 rfl rfl ?_
                            refine mv_iload_n d_TrustDesk_settle_37 rfl rfl ?_
                            refine tr_putKM tm_okF I697 t705 (k := 6) rfl ⟨_, rfl⟩ (Or.inl (by decide)) d_TrustDesk_settle_38 p_TrustDesk_318_11 rfl rfl (fun M724 I725 q726 K727 K727M => ?_)
                            have K728 : ∀ (a o : Nat) (w : Value), T0 a = some (3, 3, o) → tm_at M0 a 0 2 w → tm_at M724 a 0 2 w := fun a o w h q => K727 _ 0 2 _ rfl (K706 a o w h q)
                            have K729 : ∀ (a : Nat) (w : Value), T0 a = some (0, 6, 0) → tm_at M0 a 6 8 w → tm_at M724 a 6 8 w := fun a w h q => K727 _ 6 8 _ rfl (K707 a w h q)
                            have K730 : ∀ (a : Nat) (w : Value), T0 a = some (0, 11, 0) → tm_at M0 a 11 5 w → tm_at M724 a 11 5 w := fun a w h q => K727 _ 11 5 _ rfl (K708 a w h q)
                            refine mv_aload_n d_TrustDesk_settle_41 rfl rfl ?_
                            refine mv_iload_n d_TrustDesk_settle_42 rfl rfl ?_
                            refine mv_if_ne_f (tgt := 50) d_TrustDesk_settle_43 (by decide) (by decide) ?_
                            refine mv_iconst (v := 1) d_TrustDesk_settle_46 (by decide) ?_
                            refine mv_goto (tgt := 51) d_TrustDesk_settle_47 (by decide) ?_
                            refine tr_putKM tm_okF I725 t705 (k := 5) rfl ⟨_, rfl⟩ (Or.inl (by decide)) d_TrustDesk_settle_51 p_TrustDesk_284_11 rfl rfl (fun M731 I732 q733 K734 K734M => ?_)
                            have K735 : ∀ (a o : Nat) (w : Value), T0 a = some (3, 3, o) → tm_at M0 a 0 2 w → tm_at M731 a 0 2 w := fun a o w h q => K734 _ 0 2 _ rfl (K728 a o w h q)
                            have K736 : ∀ (a : Nat) (w : Value), T0 a = some (0, 6, 0) → tm_at M0 a 6 8 w → tm_at M731 a 6 8 w := fun a w h q => K734 _ 6 8 _ rfl (K729 a w h q)
                            have K737 : ∀ (a : Nat) (w : Value), T0 a = some (0, 11, 0) → a ≠ a15 → tm_at M0 a 11 5 w → tm_at M731 a 11 5 w := fun a w h hx q => tm_at.eq (K734M _ hx) (K730 a w h q)
                            refine mv_iload_n d_TrustDesk_settle_54 rfl rfl ?_
                            refine mv_if_ne_f (tgt := 63) d_TrustDesk_settle_55 (by decide) (by decide) ?_
                            refine mv_aload_n d_TrustDesk_settle_58 rfl rfl ?_
                            refine mv_aload_n d_TrustDesk_settle_59 rfl rfl ?_
                            obtain ⟨_, b738, -⟩ := I732.1 _ _ t704
                            refine mv_callV (kc1 := 0) (ks1 := 0) (kc' := 0) (ks' := 0) (As := [.ref a15]) (st9 := [.ref a15, .ref o0]) d_TrustDesk_settle_60 lV_TrustDesk_321 b738 rfl (mj_enter (by decide) (Nat.le_of_ble_eq_true rfl) ?_) rfl (Nat.le_of_ble_eq_true rfl) (Nat.le_of_ble_eq_true rfl) (Nat.le_of_ble_eq_true rfl) (hst := rfl) (fun _ _ _ h => h)
                            refine mv_aload_n d_TrustDesk_carryOut_0 rfl rfl ?_
                            refine mv_aload_n d_TrustDesk_carryOut_1 rfl rfl ?_
                            refine tr_getK (k := 1) (K734 _ 11 1 _ rfl (K727 _ 11 1 _ rfl q718)) d_TrustDesk_carryOut_2 f_TrustDesk_302_11 ?_
                            obtain ⟨_, b739, -⟩ := I732.1 _ _ t704
                            refine mv_callV (kc1 := 0) (ks1 := 0) (kc' := 0) (ks' := 0) (As := [.int v36]) (st9 := [.int v36, .ref o0]) d_TrustDesk_carryOut_5 lV_TrustDesk_257 b739 rfl (mj_enter (by decide) (Nat.le_of_ble_eq_true rfl) ?_) rfl (Nat.le_of_ble_eq_true rfl) (Nat.le_of_ble_eq_true rfl) (Nat.le_of_ble_eq_true rfl) (hst := rfl) (fun _ _ _ h => h)
                            refine mv_iload_n d_TrustDesk_fundAt_0 rfl rfl ?_
                            have := mz_hi v36
                            refine mv_if_ltZ (tgt := 29) (a := v36.toInt) d_TrustDesk_fundAt_1 (by decide) rfl (fun b740 => absurd b740 (by omega)) (fun b740 => ?_)
                            refine mv_iload_n d_TrustDesk_fundAt_4 rfl rfl ?_
                            refine mv_aload_n d_TrustDesk_fundAt_5 rfl rfl ?_
                            refine tr_getK (k := 6) (K734 _ 12 6 _ rfl (K727 _ 12 6 _ rfl q709)) d_TrustDesk_fundAt_6 f_TrustDesk_53_12 ?_
                            obtain ⟨m742, e743, N744, f745, h741⟩ := tm_lsn I732 t710 (K734 _ 0 2 _ rfl (K727 _ 0 2 _ rfl q719))
                            refine mv_callV_s (kc' := 0) (ks' := 0) [] [.ref Lf, .int v36] d_TrustDesk_fundAt_9 lV_TrustDesk_97 h741.1 rfl (tc_L_size (d := (d + 7)) h741.1) rfl (Nat.le_of_ble_eq_true rfl) (Nat.le_of_ble_eq_true rfl) (Nat.le_of_ble_eq_true rfl) rfl ?_
                            have := mz_hi v36
                            have := mz_hi n58
                            refine mv_icmp_geZ (tgt := 29) (a := v36.toInt) (b := n58.toInt) d_TrustDesk_fundAt_12 (by decide) rfl rfl (fun b746 => ?_) (fun b746 => ?_)
                            · refine mv_null d_TrustDesk_fundAt_29 ?_
                              refine mv_aret (r := none) d_TrustDesk_fundAt_30 rfl (by first | exact Or.inl ⟨_, rfl⟩ | exact Or.inr ⟨_, rfl⟩) ?_
                              refine mv_astore_nN (lv' := [(2, .null), (0, .ref o0), (1, .ref a15)]) d_TrustDesk_carryOut_8 rfl (by decide) rfl ?_
                              refine mv_aload_nN d_TrustDesk_carryOut_9 rfl rfl ?_
                              refine mv_ifnonnullN d_TrustDesk_carryOut_10 ?_
                              refine mv_vret d_TrustDesk_carryOut_13 rfl ?_
                              refine mv_iload_n d_TrustDesk_settle_63 rfl rfl ?_
                              exact mv_iret d_TrustDesk_settle_64 rfl (by first | rfl | decide) ⟨_, I732, _, rfl, (Or.inl ⟨K735, K736⟩), Or.inr ⟨by omega, _, _, g16, q733, by decide, K737⟩⟩
                            · refine mv_aload_n d_TrustDesk_fundAt_15 rfl rfl ?_
                              refine tr_getK (k := 6) (K734 _ 12 6 _ rfl (K727 _ 12 6 _ rfl q709)) d_TrustDesk_fundAt_16 f_TrustDesk_53_12 ?_
                              refine mv_iload_n d_TrustDesk_fundAt_19 rfl rfl ?_
                              obtain ⟨m748, e749, N750, f751, h747⟩ := tm_lsn I732 t710 (K734 _ 0 2 _ rfl (K727 _ 0 2 _ rfl q719))
                              have u752e := (tm_el (i := v36) h747 (by omega) (by omega)).1
                              have u752i := (tm_el (i := v36) h747 (by omega) (by omega)).2.1
                              obtain ⟨_, u752f, u752t⟩ := tm_ge.el h747 (I732.keepG I0.1 h_Lf (by decide) g82)
                              have t_z753 : T695 a81 = some (0, 6, 0) := u752t
                              refine mv_callV_s (kc' := 0) (ks' := 0) [.int v36] [.int v36, .ref Lf] d_TrustDesk_fundAt_20 lV_TrustDesk_158 h747.1 rfl (tc_L_get (d := (d + 5)) h747.1 u752e (by omega) (by omega) u752i u752f) rfl (Nat.le_of_ble_eq_true rfl) (Nat.le_of_ble_eq_true rfl) (Nat.le_of_ble_eq_true rfl) rfl ?_
                              obtain ⟨_, b754, -⟩ := I732.1 _ _ t_z753
                              refine mv_castS (T9 := kF_Fund) (N := 15) d_TrustDesk_fundAt_23 (mj_in1 (List.mem_of_getElem? (i := 655) (by decide +kernel)) rfl) b754 rfl ?_
                              refine mv_goto (tgt := 30) d_TrustDesk_fundAt_26 (by decide) ?_
                              refine mv_aret (r := (some a81)) d_TrustDesk_fundAt_30 rfl (by first | exact Or.inl ⟨_, rfl⟩ | exact Or.inr ⟨_, rfl⟩) ?_
                              refine mv_astore_n (lv' := [(2, .ref a81), (0, .ref o0), (1, .ref a15)]) d_TrustDesk_carryOut_8 rfl (by decide) rfl ?_
                              refine mv_aload_n d_TrustDesk_carryOut_9 rfl rfl ?_
                              refine mv_ifnonnull (tgt := 14) d_TrustDesk_carryOut_10 (by decide) ?_
                              refine mv_aload_n d_TrustDesk_carryOut_14 rfl rfl ?_
                              refine tr_getK (k := 0) (K734 _ 11 0 _ rfl (K727 _ 11 0 _ rfl q721)) d_TrustDesk_carryOut_15 f_TrustDesk_308_11 ?_
                              refine mv_tableIn (tgt := 44) (off := 26) d_TrustDesk_carryOut_18 (by omega) (by omega) (by rw [b92]; rfl) (by decide) ?_
                              refine mv_aload_n d_TrustDesk_carryOut_44 rfl rfl ?_
                              refine mv_aload_n d_TrustDesk_carryOut_45 rfl rfl ?_
                              refine mv_aload_n d_TrustDesk_carryOut_46 rfl rfl ?_
                              refine mv_aload_n d_TrustDesk_carryOut_47 rfl rfl ?_
                              obtain ⟨v756, q755⟩ := tm_atI I732 t705 (k := 2) rfl
                              refine tr_getK q755 d_TrustDesk_carryOut_48 f_TrustDesk_311_11 ?_
                              obtain ⟨_, b763, -⟩ := I732.1 _ _ t704
                              refine mv_callV (kc' := 0) (ks' := 0) (As := [.int v756]) (st9 := [.int v756, .ref o0, .ref a81, .ref o0]) d_TrustDesk_carryOut_51 lV_TrustDesk_276 b763 rfl (tc_TrustDesk_nearAt (d := (d + 5)) (x9 := x9) (o0 := o0) (x1 := v756) t704 I732.start) rfl (Nat.le_of_ble_eq_true rfl) (Nat.le_of_ble_eq_true rfl) (Nat.le_of_ble_eq_true rfl) (hst := rfl) (fun b757r M758 n759 b757 => ?_)
                              obtain ⟨T760, J761, b765⟩ := b757
                              have I762 := I732.call J761 (tm_sub (by decide)) (Or.inl rfl)
                              have t766 := J761.up t_z753
                              have t767 := J761.up t704
                              have t768 := J761.up t705
                              have K769 : ∀ (a o : Nat) (w : Value), T0 a = some (3, 3, o) → tm_at M0 a 0 2 w → tm_at M758 a 0 2 w := fun a o w h q => J761.keepL (I732.up h) (by decide) (K735 a o w h q)
                              have K770 : ∀ (a : Nat) (w : Value), T0 a = some (0, 6, 0) → tm_at M0 a 6 8 w → tm_at M758 a 6 8 w := fun a w h q => J761.keep (I732.up h) (by decide) (K736 a w h q)
                              have K771 : ∀ (a : Nat) (w : Value), T0 a = some (0, 11, 0) → a ≠ a15 → tm_at M0 a 11 5 w → tm_at M758 a 11 5 w := fun a w h hx q => J761.keep (I732.up h) (by decide) (K737 a w h hx q)
                              have q772 := J761.keep t704 (by decide) (K734 _ 12 6 _ rfl (K727 _ 12 6 _ rfl q709))
                              have t773 := J761.up t710
                              have q774 := J761.keep t704 (by decide) (K734 _ 12 8 _ rfl (K727 _ 12 8 _ rfl q711))
                              have t775 := J761.up t712
                              have q776 := J761.keepL t712 (by decide) (K734 _ 0 2 _ rfl (K727 _ 0 2 _ rfl q713))
                              have q777 := J761.keep t704 (by decide) (K734 _ 12 12 _ rfl (K727 _ 12 12 _ rfl q714))
                              have q778 := J761.keep t705 (by decide) (K734 _ 11 4 _ rfl (K727 _ 11 4 _ rfl q715))
                              have q779 := J761.keep t705 (by decide) (K734 _ 11 7 _ rfl (K727 _ 11 7 _ rfl q717))
                              have q780 := J761.keep t705 (by decide) (K734 _ 11 1 _ rfl (K727 _ 11 1 _ rfl q718))
                              have q781 := J761.keepL t710 (by decide) (K734 _ 0 2 _ rfl (K727 _ 0 2 _ rfl q719))
                              have q782 := J761.keep t703 (by decide) (K734 _ 6 8 _ rfl (K727 _ 6 8 _ rfl q720))
                              have q783 := J761.keep t705 (by decide) (K734 _ 11 0 _ rfl (K727 _ 11 0 _ rfl q721))
                              have q784 := J761.keep t705 (by decide) (K734 _ 11 6 _ rfl q726)
                              have q785 := J761.keep t705 (by decide) q733
                              have q786 := J761.keep t705 (by decide) q755
                              rcases b765 with rfl | ⟨a764, rfl, t_a764⟩
                              · obtain ⟨_, b793, -⟩ := I762.1 _ _ t767
                                refine mv_callV (kc' := 0) (ks' := 0) (As := [.ref a81, .null]) (st9 := [.null, .ref a81, .ref o0]) d_TrustDesk_carryOut_54 lV_TrustDesk_391 b793 rfl (tc_TrustDesk_bringNear_n2 (d := (d + 4)) (x9 := x9) (o0 := o0) (o1 := a81) t767 t766 I762.start) rfl (Nat.le_of_ble_eq_true rfl) (Nat.le_of_ble_eq_true rfl) (Nat.le_of_ble_eq_true rfl) (hst := rfl) (fun b787r M788 n789 b787 => ?_)
                                obtain ⟨T790, J791, rfl⟩ := b787
                                have I792 := I762.call J791 (tm_sub (by decide)) (Or.inl rfl)
                                have t794 := J791.up t766
                                have t795 := J791.up t767
                                have t796 := J791.up t768
                                have K797 : ∀ (a o : Nat) (w : Value), T0 a = some (3, 3, o) → tm_at M0 a 0 2 w → tm_at M788 a 0 2 w := fun a o w h q => J791.keepL (I762.up h) (by decide) (K769 a o w h q)
                                have K798 : ∀ (a : Nat) (w : Value), T0 a = some (0, 6, 0) → tm_at M0 a 6 8 w → tm_at M788 a 6 8 w := fun a w h q => J791.keep (I762.up h) (by decide) (K770 a w h q)
                                have K799 : ∀ (a : Nat) (w : Value), T0 a = some (0, 11, 0) → a ≠ a15 → tm_at M0 a 11 5 w → tm_at M788 a 11 5 w := fun a w h hx q => J791.keep (I762.up h) (by decide) (K771 a w h hx q)
                                have q800 := J791.keep t767 (by decide) q772
                                have t801 := J791.up t773
                                have q802 := J791.keep t767 (by decide) q774
                                have t803 := J791.up t775
                                have q804 := J791.keepL t775 (by decide) q776
                                have q805 := J791.keep t767 (by decide) q777
                                have q806 := J791.keep t768 (by decide) q778
                                have q807 := J791.keep t768 (by decide) q779
                                have q808 := J791.keep t768 (by decide) q780
                                have q809 := J791.keepL t773 (by decide) q781
                                have q810 := J791.keep t766 (by decide) q782
                                have q811 := J791.keep t768 (by decide) q783
                                have q812 := J791.keep t768 (by decide) q784
                                have q813 := J791.keep t768 (by decide) q785
                                have q814 := J791.keep t768 (by decide) q786
                                refine mv_goto (tgt := 100) d_TrustDesk_carryOut_57 (by decide) ?_
                                refine mv_vret d_TrustDesk_carryOut_100 rfl ?_
                                refine mv_iload_n d_TrustDesk_settle_63 rfl rfl ?_
                                exact mv_iret d_TrustDesk_settle_64 rfl (by first | rfl | decide) ⟨_, I792, _, rfl, (Or.inl ⟨K797, K798⟩), Or.inr ⟨by omega, _, _, g16, q813, by decide, K799⟩⟩
                              · obtain ⟨_, b821, -⟩ := I762.1 _ _ t767
                                refine mv_callV (kc' := 0) (ks' := 0) (As := [.ref a81, .ref a764]) (st9 := [.ref a764, .ref a81, .ref o0]) d_TrustDesk_carryOut_54 lV_TrustDesk_391 b821 rfl (tc_TrustDesk_bringNear (d := (d + 4)) (x9 := x9) (o0 := o0) (o1 := a81) (o2 := a764) t767 t766 t_a764 I762.start) rfl (Nat.le_of_ble_eq_true rfl) (Nat.le_of_ble_eq_true rfl) (Nat.le_of_ble_eq_true rfl) (hst := rfl) (fun b815r M816 n817 b815 => ?_)
                                obtain ⟨T818, J819, rfl⟩ := b815
                                have I820 := I762.call J819 (tm_sub (by decide)) (Or.inl rfl)
                                have t822 := J819.up t766
                                have t823 := J819.up t767
                                have t824 := J819.up t768
                                have K825 : ∀ (a o : Nat) (w : Value), T0 a = some (3, 3, o) → tm_at M0 a 0 2 w → tm_at M816 a 0 2 w := fun a o w h q => J819.keepL (I762.up h) (by decide) (K769 a o w h q)
                                have K826 : ∀ (a : Nat) (w : Value), T0 a = some (0, 6, 0) → tm_at M0 a 6 8 w → tm_at M816 a 6 8 w := fun a w h q => J819.keep (I762.up h) (by decide) (K770 a w h q)
                                have K827 : ∀ (a : Nat) (w : Value), T0 a = some (0, 11, 0) → a ≠ a15 → tm_at M0 a 11 5 w → tm_at M816 a 11 5 w := fun a w h hx q => J819.keep (I762.up h) (by decide) (K771 a w h hx q)
                                have q828 := J819.keep t767 (by decide) q772
                                have t829 := J819.up t773
                                have q830 := J819.keep t767 (by decide) q774
                                have t831 := J819.up t775
                                have q832 := J819.keepL t775 (by decide) q776
                                have q833 := J819.keep t767 (by decide) q777
                                have q834 := J819.keep t768 (by decide) q778
                                have q835 := J819.keep t768 (by decide) q779
                                have q836 := J819.keep t768 (by decide) q780
                                have q837 := J819.keepL t773 (by decide) q781
                                have q838 := J819.keep t766 (by decide) q782
                                have q839 := J819.keep t768 (by decide) q783
                                have q840 := J819.keep t768 (by decide) q784
                                have q841 := J819.keep t768 (by decide) q785
                                have q842 := J819.keep t768 (by decide) q786
                                refine mv_goto (tgt := 100) d_TrustDesk_carryOut_57 (by decide) ?_
                                refine mv_vret d_TrustDesk_carryOut_100 rfl ?_
                                refine mv_iload_n d_TrustDesk_settle_63 rfl rfl ?_
                                exact mv_iret d_TrustDesk_settle_64 rfl (by first | rfl | decide) ⟨_, I820, _, rfl, (Or.inl ⟨K825, K826⟩), Or.inr ⟨by omega, _, _, g16, q841, by decide, K827⟩⟩
                          · refine mv_iconst (v := 5) d_TrustDesk_failureOf_85 (by decide) ?_
                            refine mv_goto (tgt := 90) d_TrustDesk_failureOf_86 (by decide) ?_
                            refine mv_iret d_TrustDesk_failureOf_90 rfl (by first | rfl | decide) ?_
                            refine mv_istore_n (lv' := [(3, .int 5), (2, .ref a15), (0, .ref o0), (1, .int x1)]) d_TrustDesk_settle_35 rfl (by decide) rfl ?_
                            refine mv_aload_n d_TrustDesk_settle_36 rfl rfl ?_
                            refine mv_iload_n d_TrustDesk_settle_37 rfl rfl ?_
                            refine tr_putKM tm_okF I697 t705 (k := 6) rfl ⟨_, rfl⟩ (Or.inl (by decide)) d_TrustDesk_settle_38 p_TrustDesk_318_11 rfl rfl (fun M843 I844 q845 K846 K846M => ?_)
                            have K847 : ∀ (a o : Nat) (w : Value), T0 a = some (3, 3, o) → tm_at M0 a 0 2 w → tm_at M843 a 0 2 w := fun a o w h q => K846 _ 0 2 _ rfl (K706 a o w h q)
                            have K848 : ∀ (a : Nat) (w : Value), T0 a = some (0, 6, 0) → tm_at M0 a 6 8 w → tm_at M843 a 6 8 w := fun a w h q => K846 _ 6 8 _ rfl (K707 a w h q)
                            have K849 : ∀ (a : Nat) (w : Value), T0 a = some (0, 11, 0) → tm_at M0 a 11 5 w → tm_at M843 a 11 5 w := fun a w h q => K846 _ 11 5 _ rfl (K708 a w h q)
                            refine mv_aload_n d_TrustDesk_settle_41 rfl rfl ?_
                            refine mv_iload_n d_TrustDesk_settle_42 rfl rfl ?_
                            refine mv_if_ne_t (tgt := 50) d_TrustDesk_settle_43 (by decide) (by decide) ?_
                            refine mv_iconst (v := 2) d_TrustDesk_settle_50 (by decide) ?_
                            refine tr_putKM tm_okF I844 t705 (k := 5) rfl ⟨_, rfl⟩ (Or.inl (by decide)) d_TrustDesk_settle_51 p_TrustDesk_284_11 rfl rfl (fun M850 I851 q852 K853 K853M => ?_)
                            have K854 : ∀ (a o : Nat) (w : Value), T0 a = some (3, 3, o) → tm_at M0 a 0 2 w → tm_at M850 a 0 2 w := fun a o w h q => K853 _ 0 2 _ rfl (K847 a o w h q)
                            have K855 : ∀ (a : Nat) (w : Value), T0 a = some (0, 6, 0) → tm_at M0 a 6 8 w → tm_at M850 a 6 8 w := fun a w h q => K853 _ 6 8 _ rfl (K848 a w h q)
                            have K856 : ∀ (a : Nat) (w : Value), T0 a = some (0, 11, 0) → a ≠ a15 → tm_at M0 a 11 5 w → tm_at M850 a 11 5 w := fun a w h hx q => tm_at.eq (K853M _ hx) (K849 a w h q)
                            refine mv_iload_n d_TrustDesk_settle_54 rfl rfl ?_
                            refine mv_if_ne_t (tgt := 63) d_TrustDesk_settle_55 (by decide) (by decide) ?_
                            refine mv_iload_n d_TrustDesk_settle_63 rfl rfl ?_
                            exact mv_iret d_TrustDesk_settle_64 rfl (by first | rfl | decide) ⟨_, I851, _, rfl, (Or.inl ⟨K854, K855⟩), Or.inr ⟨by omega, _, _, g16, q852, by decide, K856⟩⟩
                        · refine mv_iconst (v := 4) d_TrustDesk_failureOf_76 (by decide) ?_
                          refine mv_iret d_TrustDesk_failureOf_77 rfl (by first | rfl | decide) ?_
                          refine mv_istore_n (lv' := [(3, .int 4), (2, .ref a15), (0, .ref o0), (1, .int x1)]) d_TrustDesk_settle_35 rfl (by decide) rfl ?_
                          refine mv_aload_n d_TrustDesk_settle_36 rfl rfl ?_
                          refine mv_iload_n d_TrustDesk_settle_37 rfl rfl ?_
                          refine tr_putKM tm_okF I697 t705 (k := 6) rfl ⟨_, rfl⟩ (Or.inl (by decide)) d_TrustDesk_settle_38 p_TrustDesk_318_11 rfl rfl (fun M857 I858 q859 K860 K860M => ?_)
                          have K861 : ∀ (a o : Nat) (w : Value), T0 a = some (3, 3, o) → tm_at M0 a 0 2 w → tm_at M857 a 0 2 w := fun a o w h q => K860 _ 0 2 _ rfl (K706 a o w h q)
                          have K862 : ∀ (a : Nat) (w : Value), T0 a = some (0, 6, 0) → tm_at M0 a 6 8 w → tm_at M857 a 6 8 w := fun a w h q => K860 _ 6 8 _ rfl (K707 a w h q)
                          have K863 : ∀ (a : Nat) (w : Value), T0 a = some (0, 11, 0) → tm_at M0 a 11 5 w → tm_at M857 a 11 5 w := fun a w h q => K860 _ 11 5 _ rfl (K708 a w h q)
                          refine mv_aload_n d_TrustDesk_settle_41 rfl rfl ?_
                          refine mv_iload_n d_TrustDesk_settle_42 rfl rfl ?_
                          refine mv_if_ne_t (tgt := 50) d_TrustDesk_settle_43 (by decide) (by decide) ?_
                          refine mv_iconst (v := 2) d_TrustDesk_settle_50 (by decide) ?_
                          refine tr_putKM tm_okF I858 t705 (k := 5) rfl ⟨_, rfl⟩ (Or.inl (by decide)) d_TrustDesk_settle_51 p_TrustDesk_284_11 rfl rfl (fun M864 I865 q866 K867 K867M => ?_)
                          have K868 : ∀ (a o : Nat) (w : Value), T0 a = some (3, 3, o) → tm_at M0 a 0 2 w → tm_at M864 a 0 2 w := fun a o w h q => K867 _ 0 2 _ rfl (K861 a o w h q)
                          have K869 : ∀ (a : Nat) (w : Value), T0 a = some (0, 6, 0) → tm_at M0 a 6 8 w → tm_at M864 a 6 8 w := fun a w h q => K867 _ 6 8 _ rfl (K862 a w h q)
                          have K870 : ∀ (a : Nat) (w : Value), T0 a = some (0, 11, 0) → a ≠ a15 → tm_at M0 a 11 5 w → tm_at M864 a 11 5 w := fun a w h hx q => tm_at.eq (K867M _ hx) (K863 a w h q)
                          refine mv_iload_n d_TrustDesk_settle_54 rfl rfl ?_
                          refine mv_if_ne_t (tgt := 63) d_TrustDesk_settle_55 (by decide) (by decide) ?_
                          refine mv_iload_n d_TrustDesk_settle_63 rfl rfl ?_
                          exact mv_iret d_TrustDesk_settle_64 rfl (by first | rfl | decide) ⟨_, I865, _, rfl, (Or.inl ⟨K868, K869⟩), Or.inr ⟨by omega, _, _, g16, q866, by decide, K870⟩⟩
                      · refine mv_iconst (v := 3) d_TrustDesk_failureOf_65 (by decide) ?_
                        refine mv_iret d_TrustDesk_failureOf_66 rfl (by first | rfl | decide) ?_
                        refine mv_istore_n (lv' := [(3, .int 3), (2, .ref a15), (0, .ref o0), (1, .int x1)]) d_TrustDesk_settle_35 rfl (by decide) rfl ?_
                        refine mv_aload_n d_TrustDesk_settle_36 rfl rfl ?_
                        refine mv_iload_n d_TrustDesk_settle_37 rfl rfl ?_
                        refine tr_putKM tm_okF I668 t674 (k := 6) rfl ⟨_, rfl⟩ (Or.inl (by decide)) d_TrustDesk_settle_38 p_TrustDesk_318_11 rfl rfl (fun M871 I872 q873 K874 K874M => ?_)
                        have K875 : ∀ (a o : Nat) (w : Value), T0 a = some (3, 3, o) → tm_at M0 a 0 2 w → tm_at M871 a 0 2 w := fun a o w h q => K874 _ 0 2 _ rfl (K675 a o w h q)
                        have K876 : ∀ (a : Nat) (w : Value), T0 a = some (0, 6, 0) → tm_at M0 a 6 8 w → tm_at M871 a 6 8 w := fun a w h q => K874 _ 6 8 _ rfl (K676 a w h q)
                        have K877 : ∀ (a : Nat) (w : Value), T0 a = some (0, 11, 0) → tm_at M0 a 11 5 w → tm_at M871 a 11 5 w := fun a w h q => K874 _ 11 5 _ rfl (K677 a w h q)
                        refine mv_aload_n d_TrustDesk_settle_41 rfl rfl ?_
                        refine mv_iload_n d_TrustDesk_settle_42 rfl rfl ?_
                        refine mv_if_ne_t (tgt := 50) d_TrustDesk_settle_43 (by decide) (by decide) ?_
                        refine mv_iconst (v := 2) d_TrustDesk_settle_50 (by decide) ?_
                        refine tr_putKM tm_okF I872 t674 (k := 5) rfl ⟨_, rfl⟩ (Or.inl (by decide)) d_TrustDesk_settle_51 p_TrustDesk_284_11 rfl rfl (fun M878 I879 q880 K881 K881M => ?_)
                        have K882 : ∀ (a o : Nat) (w : Value), T0 a = some (3, 3, o) → tm_at M0 a 0 2 w → tm_at M878 a 0 2 w := fun a o w h q => K881 _ 0 2 _ rfl (K875 a o w h q)
                        have K883 : ∀ (a : Nat) (w : Value), T0 a = some (0, 6, 0) → tm_at M0 a 6 8 w → tm_at M878 a 6 8 w := fun a w h q => K881 _ 6 8 _ rfl (K876 a w h q)
                        have K884 : ∀ (a : Nat) (w : Value), T0 a = some (0, 11, 0) → a ≠ a15 → tm_at M0 a 11 5 w → tm_at M878 a 11 5 w := fun a w h hx q => tm_at.eq (K881M _ hx) (K877 a w h q)
                        refine mv_iload_n d_TrustDesk_settle_54 rfl rfl ?_
                        refine mv_if_ne_t (tgt := 63) d_TrustDesk_settle_55 (by decide) (by decide) ?_
                        refine mv_iload_n d_TrustDesk_settle_63 rfl rfl ?_
                        exact mv_iret d_TrustDesk_settle_64 rfl (by first | rfl | decide) ⟨_, I879, _, rfl, (Or.inl ⟨K882, K883⟩), Or.inr ⟨by omega, _, _, g16, q880, by decide, K884⟩⟩
                    · refine mv_iconst (v := 2) d_TrustDesk_failureOf_46 (by decide) ?_
                      refine mv_iret d_TrustDesk_failureOf_47 rfl (by first | rfl | decide) ?_
                      refine mv_istore_n (lv' := [(3, .int 2), (2, .ref a15), (0, .ref o0), (1, .int x1)]) d_TrustDesk_settle_35 rfl (by decide) rfl ?_
                      refine mv_aload_n d_TrustDesk_settle_36 rfl rfl ?_
                      refine mv_iload_n d_TrustDesk_settle_37 rfl rfl ?_
                      refine tr_putKM tm_okF I582 t590 (k := 6) rfl ⟨_, rfl⟩ (Or.inl (by decide)) d_TrustDesk_settle_38 p_TrustDesk_318_11 rfl rfl (fun M885 I886 q887 K888 K888M => ?_)
                      have K889 : ∀ (a o : Nat) (w : Value), T0 a = some (3, 3, o) → tm_at M0 a 0 2 w → tm_at M885 a 0 2 w := fun a o w h q => K888 _ 0 2 _ rfl (K591 a o w h q)
                      have K890 : ∀ (a : Nat) (w : Value), T0 a = some (0, 6, 0) → tm_at M0 a 6 8 w → tm_at M885 a 6 8 w := fun a w h q => K888 _ 6 8 _ rfl (K592 a w h q)
                      have K891 : ∀ (a : Nat) (w : Value), T0 a = some (0, 11, 0) → tm_at M0 a 11 5 w → tm_at M885 a 11 5 w := fun a w h q => K888 _ 11 5 _ rfl (K593 a w h q)
                      refine mv_aload_n d_TrustDesk_settle_41 rfl rfl ?_
                      refine mv_iload_n d_TrustDesk_settle_42 rfl rfl ?_
                      refine mv_if_ne_t (tgt := 50) d_TrustDesk_settle_43 (by decide) (by decide) ?_
                      refine mv_iconst (v := 2) d_TrustDesk_settle_50 (by decide) ?_
                      refine tr_putKM tm_okF I886 t590 (k := 5) rfl ⟨_, rfl⟩ (Or.inl (by decide)) d_TrustDesk_settle_51 p_TrustDesk_284_11 rfl rfl (fun M892 I893 q894 K895 K895M => ?_)
                      have K896 : ∀ (a o : Nat) (w : Value), T0 a = some (3, 3, o) → tm_at M0 a 0 2 w → tm_at M892 a 0 2 w := fun a o w h q => K895 _ 0 2 _ rfl (K889 a o w h q)
                      have K897 : ∀ (a : Nat) (w : Value), T0 a = some (0, 6, 0) → tm_at M0 a 6 8 w → tm_at M892 a 6 8 w := fun a w h q => K895 _ 6 8 _ rfl (K890 a w h q)
                      have K898 : ∀ (a : Nat) (w : Value), T0 a = some (0, 11, 0) → a ≠ a15 → tm_at M0 a 11 5 w → tm_at M892 a 11 5 w := fun a w h hx q => tm_at.eq (K895M _ hx) (K891 a w h q)
                      refine mv_iload_n d_TrustDesk_settle_54 rfl rfl ?_
                      refine mv_if_ne_t (tgt := 63) d_TrustDesk_settle_55 (by decide) (by decide) ?_
                      refine mv_iload_n d_TrustDesk_settle_63 rfl rfl ?_
                      exact mv_iret d_TrustDesk_settle_64 rfl (by first | rfl | decide) ⟨_, I893, _, rfl, (Or.inl ⟨K896, K897⟩), Or.inr ⟨by omega, _, _, g16, q894, by decide, K898⟩⟩
                · refine mv_tableIn (tgt := 53) (off := 40) d_TrustDesk_canBe_13 (by omega) (by omega) (by rw [b92]; rfl) (by decide) ?_
                  refine mv_aload_n d_TrustDesk_canBe_53 rfl rfl ?_
                  refine mv_aload_n d_TrustDesk_canBe_54 rfl rfl ?_
                  refine mv_aload_n d_TrustDesk_canBe_55 rfl rfl ?_
                  refine mv_aload_n d_TrustDesk_canBe_56 rfl rfl ?_
                  obtain ⟨v900, q899⟩ := tm_atI I0 t_a15 (k := 2) rfl
                  refine tr_getK q899 d_TrustDesk_canBe_57 f_TrustDesk_311_11 ?_
                  obtain ⟨_, b901, -⟩ := I0.1 _ _ h_o0
                  refine mv_callV (kc1 := 0) (ks1 := 0) (kc' := 0) (ks' := 0) (As := [.int v900]) (st9 := [.int v900, .ref o0, .ref a81, .ref o0]) d_TrustDesk_canBe_60 lV_TrustDesk_257 b901 rfl (mj_enter (by decide) (Nat.le_of_ble_eq_true rfl) ?_) rfl (Nat.le_of_ble_eq_true rfl) (Nat.le_of_ble_eq_true rfl) (Nat.le_of_ble_eq_true rfl) (hst := rfl) (fun _ _ _ h => h)
                  refine mv_iload_n d_TrustDesk_fundAt_0 rfl rfl ?_
                  have := mz_hi v900
                  refine mv_if_ltZ (tgt := 29) (a := v900.toInt) d_TrustDesk_fundAt_1 (by decide) rfl (fun b902 => ?_) (fun b902 => ?_)
                  · refine mv_null d_TrustDesk_fundAt_29 ?_
                    refine mv_aret (r := none) d_TrustDesk_fundAt_30 rfl (by first | exact Or.inl ⟨_, rfl⟩ | exact Or.inr ⟨_, rfl⟩) ?_
                    obtain ⟨_, b903, -⟩ := I0.1 _ _ h_o0
                    refine mv_callV (kc1 := 0) (ks1 := 0) (kc' := 0) (ks' := 0) (As := [.ref a81, .null]) (st9 := [.null, .ref a81, .ref o0]) d_TrustDesk_canBe_63 lV_TrustDesk_352 b903 rfl (mj_enter (by decide) (Nat.le_of_ble_eq_true rfl) ?_) rfl (Nat.le_of_ble_eq_true rfl) (Nat.le_of_ble_eq_true rfl) (Nat.le_of_ble_eq_true rfl) (hst := rfl) (fun _ _ _ h => h)
                    refine mv_aload_nN d_TrustDesk_canJoin_0 rfl rfl ?_
                    refine mv_ifnullN (tgt := 16) d_TrustDesk_canJoin_1 (by decide) ?_
                    refine mv_iconst (v := 0) d_TrustDesk_canJoin_16 (by decide) ?_
                    refine mv_iret d_TrustDesk_canJoin_17 rfl (by decide) ?_
                    refine mv_iret d_TrustDesk_canBe_66 rfl (by decide) ?_
                    refine mv_if_ne_f (tgt := 24) d_TrustDesk_failureOf_19 (by decide) (by decide) ?_
                    refine mv_iconst (v := 1) d_TrustDesk_failureOf_22 (by decide) ?_
                    refine mv_iret d_TrustDesk_failureOf_23 rfl (by first | rfl | decide) ?_
                    refine mv_istore_n (lv' := [(3, .int 1), (2, .ref a15), (0, .ref o0), (1, .int x1)]) d_TrustDesk_settle_35 rfl (by decide) rfl ?_
                    refine mv_aload_n d_TrustDesk_settle_36 rfl rfl ?_
                    refine mv_iload_n d_TrustDesk_settle_37 rfl rfl ?_
                    refine tr_putKM tm_okF I0 t_a15 (k := 6) rfl ⟨_, rfl⟩ (Or.inl (by decide)) d_TrustDesk_settle_38 p_TrustDesk_318_11 rfl rfl (fun M904 I905 q906 K907 K907M => ?_)
                    have K908 : ∀ (a o : Nat) (w : Value), T0 a = some (3, 3, o) → tm_at M0 a 0 2 w → tm_at M904 a 0 2 w := fun a o w h q => K907 _ 0 2 _ rfl (K0L a o w h q)
                    have K909 : ∀ (a : Nat) (w : Value), T0 a = some (0, 6, 0) → tm_at M0 a 6 8 w → tm_at M904 a 6 8 w := fun a w h q => K907 _ 6 8 _ rfl (K0J a w h q)
                    have K910 : ∀ (a : Nat) (w : Value), T0 a = some (0, 11, 0) → tm_at M0 a 11 5 w → tm_at M904 a 11 5 w := fun a w h q => K907 _ 11 5 _ rfl (K0Z a w h q)
                    refine mv_aload_n d_TrustDesk_settle_41 rfl rfl ?_
                    refine mv_iload_n d_TrustDesk_settle_42 rfl rfl ?_
                    refine mv_if_ne_t (tgt := 50) d_TrustDesk_settle_43 (by decide) (by decide) ?_
                    refine mv_iconst (v := 2) d_TrustDesk_settle_50 (by decide) ?_
                    refine tr_putKM tm_okF I905 t_a15 (k := 5) rfl ⟨_, rfl⟩ (Or.inl (by decide)) d_TrustDesk_settle_51 p_TrustDesk_284_11 rfl rfl (fun M911 I912 q913 K914 K914M => ?_)
                    have K915 : ∀ (a o : Nat) (w : Value), T0 a = some (3, 3, o) → tm_at M0 a 0 2 w → tm_at M911 a 0 2 w := fun a o w h q => K914 _ 0 2 _ rfl (K908 a o w h q)
                    have K916 : ∀ (a : Nat) (w : Value), T0 a = some (0, 6, 0) → tm_at M0 a 6 8 w → tm_at M911 a 6 8 w := fun a w h q => K914 _ 6 8 _ rfl (K909 a w h q)
                    have K917 : ∀ (a : Nat) (w : Value), T0 a = some (0, 11, 0) → a ≠ a15 → tm_at M0 a 11 5 w → tm_at M911 a 11 5 w := fun a w h hx q => tm_at.eq (K914M _ hx) (K910 a w h q)
                    refine mv_iload_n d_TrustDesk_settle_54 rfl rfl ?_
                    refine mv_if_ne_t (tgt := 63) d_TrustDesk_settle_55 (by decide) (by decide) ?_
                    refine mv_iload_n d_TrustDesk_settle_63 rfl rfl ?_
                    exact mv_iret d_TrustDesk_settle_64 rfl (by first | rfl | decide) ⟨_, I912, _, rfl, (Or.inl ⟨K915, K916⟩), Or.inr ⟨by omega, _, _, g16, q913, by decide, K917⟩⟩
                  · refine mv_iload_n d_TrustDesk_fundAt_4 rfl rfl ?_
                    refine mv_aload_n d_TrustDesk_fundAt_5 rfl rfl ?_
                    refine tr_getK (k := 6) q_Lf d_TrustDesk_fundAt_6 f_TrustDesk_53_12 ?_
                    obtain ⟨m919, e920, N921, f922, h918⟩ := tm_lsn I0 h_Lf q59
                    refine mv_callV_s (kc' := 0) (ks' := 0) [] [.ref Lf, .int v900] d_TrustDesk_fundAt_9 lV_TrustDesk_97 h918.1 rfl (tc_L_size (d := (d + 6)) h918.1) rfl (Nat.le_of_ble_eq_true rfl) (Nat.le_of_ble_eq_true rfl) (Nat.le_of_ble_eq_true rfl) rfl ?_
                    have := mz_hi v900
                    have := mz_hi n58
                    refine mv_icmp_geZ (tgt := 29) (a := v900.toInt) (b := n58.toInt) d_TrustDesk_fundAt_12 (by decide) rfl rfl (fun b923 => ?_) (fun b923 => ?_)
                    · refine mv_null d_TrustDesk_fundAt_29 ?_
                      refine mv_aret (r := none) d_TrustDesk_fundAt_30 rfl (by first | exact Or.inl ⟨_, rfl⟩ | exact Or.inr ⟨_, rfl⟩) ?_
                      obtain ⟨_, b924, -⟩ := I0.1 _ _ h_o0
                      refine mv_callV (kc1 := 0) (ks1 := 0) (kc' := 0) (ks' := 0) (As := [.ref a81, .null]) (st9 := [.null, .ref a81, .ref o0]) d_TrustDesk_canBe_63 lV_TrustDesk_352 b924 rfl (mj_enter (by decide) (Nat.le_of_ble_eq_true rfl) ?_) rfl (Nat.le_of_ble_eq_true rfl) (Nat.le_of_ble_eq_true rfl) (Nat.le_of_ble_eq_true rfl) (hst := rfl) (fun _ _ _ h => h)
                      refine mv_aload_nN d_TrustDesk_canJoin_0 rfl rfl ?_
                      refine mv_ifnullN (tgt := 16) d_TrustDesk_canJoin_1 (by decide) ?_
                      refine mv_iconst (v := 0) d_TrustDesk_canJoin_16 (by decide) ?_
                      refine mv_iret d_TrustDesk_canJoin_17 rfl (by decide) ?_
                      refine mv_iret d_TrustDesk_canBe_66 rfl (by decide) ?_
                      refine mv_if_ne_f (tgt := 24) d_TrustDesk_failureOf_19 (by decide) (by decide) ?_
                      refine mv_iconst (v := 1) d_TrustDesk_failureOf_22 (by decide) ?_
                      refine mv_iret d_TrustDesk_failureOf_23 rfl (by first | rfl | decide) ?_
                      refine mv_istore_n (lv' := [(3, .int 1), (2, .ref a15), (0, .ref o0), (1, .int x1)]) d_TrustDesk_settle_35 rfl (by decide) rfl ?_
                      refine mv_aload_n d_TrustDesk_settle_36 rfl rfl ?_
                      refine mv_iload_n d_TrustDesk_settle_37 rfl rfl ?_
                      refine tr_putKM tm_okF I0 t_a15 (k := 6) rfl ⟨_, rfl⟩ (Or.inl (by decide)) d_TrustDesk_settle_38 p_TrustDesk_318_11 rfl rfl (fun M925 I926 q927 K928 K928M => ?_)
                      have K929 : ∀ (a o : Nat) (w : Value), T0 a = some (3, 3, o) → tm_at M0 a 0 2 w → tm_at M925 a 0 2 w := fun a o w h q => K928 _ 0 2 _ rfl (K0L a o w h q)
                      have K930 : ∀ (a : Nat) (w : Value), T0 a = some (0, 6, 0) → tm_at M0 a 6 8 w → tm_at M925 a 6 8 w := fun a w h q => K928 _ 6 8 _ rfl (K0J a w h q)
                      have K931 : ∀ (a : Nat) (w : Value), T0 a = some (0, 11, 0) → tm_at M0 a 11 5 w → tm_at M925 a 11 5 w := fun a w h q => K928 _ 11 5 _ rfl (K0Z a w h q)
                      refine mv_aload_n d_TrustDesk_settle_41 rfl rfl ?_
                      refine mv_iload_n d_TrustDesk_settle_42 rfl rfl ?_
                      refine mv_if_ne_t (tgt := 50) d_TrustDesk_settle_43 (by decide) (by decide) ?_
                      refine mv_iconst (v := 2) d_TrustDesk_settle_50 (by decide) ?_
                      refine tr_putKM tm_okF I926 t_a15 (k := 5) rfl ⟨_, rfl⟩ (Or.inl (by decide)) d_TrustDesk_settle_51 p_TrustDesk_284_11 rfl rfl (fun M932 I933 q934 K935 K935M => ?_)
                      have K936 : ∀ (a o : Nat) (w : Value), T0 a = some (3, 3, o) → tm_at M0 a 0 2 w → tm_at M932 a 0 2 w := fun a o w h q => K935 _ 0 2 _ rfl (K929 a o w h q)
                      have K937 : ∀ (a : Nat) (w : Value), T0 a = some (0, 6, 0) → tm_at M0 a 6 8 w → tm_at M932 a 6 8 w := fun a w h q => K935 _ 6 8 _ rfl (K930 a w h q)
                      have K938 : ∀ (a : Nat) (w : Value), T0 a = some (0, 11, 0) → a ≠ a15 → tm_at M0 a 11 5 w → tm_at M932 a 11 5 w := fun a w h hx q => tm_at.eq (K935M _ hx) (K931 a w h q)
                      refine mv_iload_n d_TrustDesk_settle_54 rfl rfl ?_
                      refine mv_if_ne_t (tgt := 63) d_TrustDesk_settle_55 (by decide) (by decide) ?_
                      refine mv_iload_n d_TrustDesk_settle_63 rfl rfl ?_
                      exact mv_iret d_TrustDesk_settle_64 rfl (by first | rfl | decide) ⟨_, I933, _, rfl, (Or.inl ⟨K936, K937⟩), Or.inr ⟨by omega, _, _, g16, q934, by decide, K938⟩⟩
                    · refine mv_aload_n d_TrustDesk_fundAt_15 rfl rfl ?_
                      refine tr_getK (k := 6) q_Lf d_TrustDesk_fundAt_16 f_TrustDesk_53_12 ?_
                      refine mv_iload_n d_TrustDesk_fundAt_19 rfl rfl ?_
                      obtain ⟨m940, e941, N942, f943, h939⟩ := tm_lsn I0 h_Lf q59
                      have u944e := (tm_el (i := v900) h939 (by omega) (by omega)).1
                      have u944i := (tm_el (i := v900) h939 (by omega) (by omega)).2.1
                      obtain ⟨a945, u944f, u944t⟩ := (tm_el (i := v900) h939 (by omega) (by omega)).2.2
                      have g946 := tm_ge.of h939 (by rw [mz_nat9 (by omega)]; omega) u944f
                      have t_z947 : T0 a945 = some (0, 6, 0) := u944t
                      refine mv_callV_s (kc' := 0) (ks' := 0) [.int v900] [.int v900, .ref Lf] d_TrustDesk_fundAt_20 lV_TrustDesk_158 h939.1 rfl (tc_L_get (d := (d + 4)) h939.1 u944e (by omega) (by omega) u944i u944f) rfl (Nat.le_of_ble_eq_true rfl) (Nat.le_of_ble_eq_true rfl) (Nat.le_of_ble_eq_true rfl) rfl ?_
                      obtain ⟨_, b948, -⟩ := I0.1 _ _ t_z947
                      refine mv_castS (T9 := kF_Fund) (N := 15) d_TrustDesk_fundAt_23 (mj_in1 (List.mem_of_getElem? (i := 655) (by decide +kernel)) rfl) b948 rfl ?_
                      refine mv_goto (tgt := 30) d_TrustDesk_fundAt_26 (by decide) ?_
                      refine mv_aret (r := (some a945)) d_TrustDesk_fundAt_30 rfl (by first | exact Or.inl ⟨_, rfl⟩ | exact Or.inr ⟨_, rfl⟩) ?_
                      obtain ⟨_, b949, -⟩ := I0.1 _ _ h_o0
                      refine mv_callV (kc1 := 0) (ks1 := 0) (kc' := 0) (ks' := 0) (As := [.ref a81, .ref a945]) (st9 := [.ref a945, .ref a81, .ref o0]) d_TrustDesk_canBe_63 lV_TrustDesk_352 b949 rfl (mj_enter (by decide) (Nat.le_of_ble_eq_true rfl) ?_) rfl (Nat.le_of_ble_eq_true rfl) (Nat.le_of_ble_eq_true rfl) (Nat.le_of_ble_eq_true rfl) (hst := rfl) (fun _ _ _ h => h)
                      refine mv_aload_n d_TrustDesk_canJoin_0 rfl rfl ?_
                      refine mv_ifnull d_TrustDesk_canJoin_1 ?_
                      refine mv_aload_n d_TrustDesk_canJoin_4 rfl rfl ?_
                      refine mv_aload_n d_TrustDesk_canJoin_5 rfl rfl ?_
                      refine mv_acmp_eqR (tgt := 16) d_TrustDesk_canJoin_6 (by decide) (I0.2.1 _ _ t_z947).1 (I0.2.1 _ _ t_z83).1 (fun b950 => ?_) (fun b950 => ?_)
                      · refine mv_iconst (v := 0) d_TrustDesk_canJoin_16 (by decide) ?_
                        refine mv_iret d_TrustDesk_canJoin_17 rfl (by decide) ?_
                        refine mv_iret d_TrustDesk_canBe_66 rfl (by decide) ?_
                        refine mv_if_ne_f (tgt := 24) d_TrustDesk_failureOf_19 (by decide) (by decide) ?_
                        refine mv_iconst (v := 1) d_TrustDesk_failureOf_22 (by decide) ?_
                        refine mv_iret d_TrustDesk_failureOf_23 rfl (by first | rfl | decide) ?_
                        refine mv_istore_n (lv' := [(3, .int 1), (2, .ref a15), (0, .ref o0), (1, .int x1)]) d_TrustDesk_settle_35 rfl (by decide) rfl ?_
                        refine mv_aload_n d_TrustDesk_settle_36 rfl rfl ?_
                        refine mv_iload_n d_TrustDesk_settle_37 rfl rfl ?_
                        refine tr_putKM tm_okF I0 t_a15 (k := 6) rfl ⟨_, rfl⟩ (Or.inl (by decide)) d_TrustDesk_settle_38 p_TrustDesk_318_11 rfl rfl (fun M951 I952 q953 K954 K954M => ?_)
                        have K955 : ∀ (a o : Nat) (w : Value), T0 a = some (3, 3, o) → tm_at M0 a 0 2 w → tm_at M951 a 0 2 w := fun a o w h q => K954 _ 0 2 _ rfl (K0L a o w h q)
                        have K956 : ∀ (a : Nat) (w : Value), T0 a = some (0, 6, 0) → tm_at M0 a 6 8 w → tm_at M951 a 6 8 w := fun a w h q => K954 _ 6 8 _ rfl (K0J a w h q)
                        have K957 : ∀ (a : Nat) (w : Value), T0 a = some (0, 11, 0) → tm_at M0 a 11 5 w → tm_at M951 a 11 5 w := fun a w h q => K954 _ 11 5 _ rfl (K0Z a w h q)
                        refine mv_aload_n d_TrustDesk_settle_41 rfl rfl ?_
                        refine mv_iload_n d_TrustDesk_settle_42 rfl rfl ?_
                        refine mv_if_ne_t (tgt := 50) d_TrustDesk_settle_43 (by decide) (by decide) ?_
                        refine mv_iconst (v := 2) d_TrustDesk_settle_50 (by decide) ?_
                        refine tr_putKM tm_okF I952 t_a15 (k := 5) rfl ⟨_, rfl⟩ (Or.inl (by decide)) d_TrustDesk_settle_51 p_TrustDesk_284_11 rfl rfl (fun M958 I959 q960 K961 K961M => ?_)
                        have K962 : ∀ (a o : Nat) (w : Value), T0 a = some (3, 3, o) → tm_at M0 a 0 2 w → tm_at M958 a 0 2 w := fun a o w h q => K961 _ 0 2 _ rfl (K955 a o w h q)
                        have K963 : ∀ (a : Nat) (w : Value), T0 a = some (0, 6, 0) → tm_at M0 a 6 8 w → tm_at M958 a 6 8 w := fun a w h q => K961 _ 6 8 _ rfl (K956 a w h q)
                        have K964 : ∀ (a : Nat) (w : Value), T0 a = some (0, 11, 0) → a ≠ a15 → tm_at M0 a 11 5 w → tm_at M958 a 11 5 w := fun a w h hx q => tm_at.eq (K961M _ hx) (K957 a w h q)
                        refine mv_iload_n d_TrustDesk_settle_54 rfl rfl ?_
                        refine mv_if_ne_t (tgt := 63) d_TrustDesk_settle_55 (by decide) (by decide) ?_
                        refine mv_iload_n d_TrustDesk_settle_63 rfl rfl ?_
                        exact mv_iret d_TrustDesk_settle_64 rfl (by first | rfl | decide) ⟨_, I959, _, rfl, (Or.inl ⟨K962, K963⟩), Or.inr ⟨by omega, _, _, g16, q960, by decide, K964⟩⟩
                      · refine mv_aload_n d_TrustDesk_canJoin_9 rfl rfl ?_
                        obtain ⟨_, b965, -⟩ := I0.1 _ _ t_z947
                        refine mv_callV (kc1 := 0) (ks1 := 0) (kc' := 0) (ks' := 0) (As := []) (st9 := [.ref a945]) d_TrustDesk_canJoin_10 lV_TrustDesk_162 b965 rfl (mj_enter (by decide) (Nat.le_of_ble_eq_true rfl) ?_) rfl (Nat.le_of_ble_eq_true rfl) (Nat.le_of_ble_eq_true rfl) (Nat.le_of_ble_eq_true rfl) (hst := rfl) (fun _ _ _ h => h)
                        refine mv_aload_n d_Fund_isJoined_0 rfl rfl ?_
                        obtain ⟨v967, q966⟩ := tm_atI I0 t_z947 (k := 8) rfl
                        refine tr_getK q966 d_Fund_isJoined_1 f_Fund_18_6 ?_
                        refine mv_iconst (v := (-1)) d_Fund_isJoined_4 (by decide) ?_
                        have := mz_hi v967
                        refine mv_icmp_eqZ (tgt := 12) (a := v967.toInt) (b := (-1)) d_Fund_isJoined_5 (by decide) rfl (by decide) (fun b968 => ?_) (fun b968 => ?_)
                        · refine mv_iconst (v := 0) d_Fund_isJoined_12 (by decide) ?_
                          refine mv_iret d_Fund_isJoined_13 rfl (by decide) ?_
                          refine mv_if_eq_t (tgt := 18) d_TrustDesk_canJoin_13 (by decide) (by decide) ?_
                          refine mv_aload_n d_TrustDesk_canJoin_18 rfl rfl ?_
                          obtain ⟨_, b975, -⟩ := I0.1 _ _ t_z83
                          refine mv_callV (kc' := 0) (ks' := 0) (As := []) (st9 := [.ref a81]) d_TrustDesk_canJoin_19 lV_TrustDesk_363 b975 rfl (tc_Fund_endsThatStand (d := (d + 2)) (x9 := x9) (o0 := a81) t_z83 I0.start) rfl (Nat.le_of_ble_eq_true rfl) (Nat.le_of_ble_eq_true rfl) (Nat.le_of_ble_eq_true rfl) (hst := rfl) (fun b969r M970 n971 b969 => ?_)
                          obtain ⟨T972, J973, v976, rfl⟩ := b969
                          have I974 := I0.call J973 (tm_sub (by decide)) (Or.inl rfl)
                          have t977 := J973.up h_o0
                          have t978 := J973.up t_z83
                          have t979 := J973.up t_z947
                          have t980 := J973.up t_a15
                          have K981 : ∀ (a o : Nat) (w : Value), T0 a = some (3, 3, o) → tm_at M0 a 0 2 w → tm_at M970 a 0 2 w := fun a o w h q => J973.keepL (I0.up h) (by decide) (K0L a o w h q)
                          have K982 : ∀ (a : Nat) (w : Value), T0 a = some (0, 6, 0) → tm_at M0 a 6 8 w → tm_at M970 a 6 8 w := fun a w h q => J973.keep (I0.up h) (by decide) (K0J a w h q)
                          have K983 : ∀ (a : Nat) (w : Value), T0 a = some (0, 11, 0) → tm_at M0 a 11 5 w → tm_at M970 a 11 5 w := fun a w h q => J973.keep (I0.up h) (by decide) (K0Z a w h q)
                          have q984 := J973.keep h_o0 (by decide) q_Lf
                          have t985 := J973.up h_Lf
                          have q986 := J973.keep h_o0 (by decide) q_Ls
                          have t987 := J973.up h_Ls
                          have q988 := J973.keepL h_Ls (by decide) yks
                          have q989 := J973.keep h_o0 (by decide) yt
                          have q990 := J973.keep t_a15 (by decide) q23
                          have q991 := J973.keep t_a15 (by decide) q25
                          have q992 := J973.keep t_a15 (by decide) q27
                          have q993 := J973.keep t_a15 (by decide) q35
                          have q994 := J973.keepL h_Lf (by decide) q59
                          have q995 := J973.keep t_z83 (by decide) q87
                          have q996 := J973.keep t_a15 (by decide) q90
                          have q997 := J973.keep t_a15 (by decide) q899
                          have q998 := J973.keep t_z947 (by decide) q966
                          refine mv_aload_n d_TrustDesk_canJoin_22 rfl rfl ?_
                          obtain ⟨_, b1005, -⟩ := I974.1 _ _ t979
                          refine mv_callV (kc' := 0) (ks' := 0) (As := []) (st9 := [.ref a945, .int v976]) d_TrustDesk_canJoin_23 lV_TrustDesk_363 b1005 rfl (tc_Fund_endsThatStand (d := (d + 2)) (x9 := x9) (o0 := a945) t979 I974.start) rfl (Nat.le_of_ble_eq_true rfl) (Nat.le_of_ble_eq_true rfl) (Nat.le_of_ble_eq_true rfl) (hst := rfl) (fun b999r M1000 n1001 b999 => ?_)
                          obtain ⟨T1002, J1003, v1006, rfl⟩ := b999
                          have I1004 := I974.call J1003 (tm_sub (by decide)) (Or.inl rfl)
                          have t1007 := J1003.up t977
                          have t1008 := J1003.up t978
                          have t1009 := J1003.up t979
                          have t1010 := J1003.up t980
                          have K1011 : ∀ (a o : Nat) (w : Value), T0 a = some (3, 3, o) → tm_at M0 a 0 2 w → tm_at M1000 a 0 2 w := fun a o w h q => J1003.keepL (I974.up h) (by decide) (K981 a o w h q)
                          have K1012 : ∀ (a : Nat) (w : Value), T0 a = some (0, 6, 0) → tm_at M0 a 6 8 w → tm_at M1000 a 6 8 w := fun a w h q => J1003.keep (I974.up h) (by decide) (K982 a w h q)
                          have K1013 : ∀ (a : Nat) (w : Value), T0 a = some (0, 11, 0) → tm_at M0 a 11 5 w → tm_at M1000 a 11 5 w := fun a w h q => J1003.keep (I974.up h) (by decide) (K983 a w h q)
                          have q1014 := J1003.keep t977 (by decide) q984
                          have t1015 := J1003.up t985
                          have q1016 := J1003.keep t977 (by decide) q986
                          have t1017 := J1003.up t987
                          have q1018 := J1003.keepL t987 (by decide) q988
                          have q1019 := J1003.keep t977 (by decide) q989
                          have q1020 := J1003.keep t980 (by decide) q990
                          have q1021 := J1003.keep t980 (by decide) q991
                          have q1022 := J1003.keep t980 (by decide) q992
                          have q1023 := J1003.keep t980 (by decide) q993
                          have q1024 := J1003.keepL t985 (by decide) q994
                          have q1025 := J1003.keep t978 (by decide) q995
                          have q1026 := J1003.keep t980 (by decide) q996
                          have q1027 := J1003.keep t980 (by decide) q997
                          have q1028 := J1003.keep t979 (by decide) q998
                          refine mv_iadd d_TrustDesk_canJoin_26 ?_
                          refine mv_bipush (v := 12) d_TrustDesk_canJoin_27 (by decide) ?_
                          have := mz_hi (v976 + v1006)
                          refine mv_icmp_gtZ (tgt := 36) (a := (v976 + v1006).toInt) (b := 12) d_TrustDesk_canJoin_29 (by decide) rfl (by decide) (fun b1029 => ?_) (fun b1029 => ?_)
                          · refine mv_iconst (v := 0) d_TrustDesk_canJoin_36 (by decide) ?_
                            refine mv_iret d_TrustDesk_canJoin_37 rfl (by decide) ?_
                            refine mv_iret d_TrustDesk_canBe_66 rfl (by decide) ?_
                            refine mv_if_ne_f (tgt := 24) d_TrustDesk_failureOf_19 (by decide) (by decide) ?_
                            refine mv_iconst (v := 1) d_TrustDesk_failureOf_22 (by decide) ?_
                            refine mv_iret d_TrustDesk_failureOf_23 rfl (by first | rfl | decide) ?_
                            refine mv_istore_n (lv' := [(3, .int 1), (2, .ref a15), (0, .ref o0), (1, .int x1)]) d_TrustDesk_settle_35 rfl (by decide) rfl ?_
                            refine mv_aload_n d_TrustDesk_settle_36 rfl rfl ?_
                            refine mv_iload_n d_TrustDesk_settle_37 rfl rfl ?_
                            refine tr_putKM tm_okF I1004 t1010 (k := 6) rfl ⟨_, rfl⟩ (Or.inl (by decide)) d_TrustDesk_settle_38 p_TrustDesk_318_11 rfl rfl (fun M1030 I1031 q1032 K1033 K1033M => ?_)
                            have K1034 : ∀ (a o : Nat) (w : Value), T0 a = some (3, 3, o) → tm_at M0 a 0 2 w → tm_at M1030 a 0 2 w := fun a o w h q => K1033 _ 0 2 _ rfl (K1011 a o w h q)
                            have K1035 : ∀ (a : Nat) (w : Value), T0 a = some (0, 6, 0) → tm_at M0 a 6 8 w → tm_at M1030 a 6 8 w := fun a w h q => K1033 _ 6 8 _ rfl (K1012 a w h q)
                            have K1036 : ∀ (a : Nat) (w : Value), T0 a = some (0, 11, 0) → tm_at M0 a 11 5 w → tm_at M1030 a 11 5 w := fun a w h q => K1033 _ 11 5 _ rfl (K1013 a w h q)
                            refine mv_aload_n d_TrustDesk_settle_41 rfl rfl ?_
                            refine mv_iload_n d_TrustDesk_settle_42 rfl rfl ?_
                            refine mv_if_ne_t (tgt := 50) d_TrustDesk_settle_43 (by decide) (by decide) ?_
                            refine mv_iconst (v := 2) d_TrustDesk_settle_50 (by decide) ?_
                            refine tr_putKM tm_okF I1031 t1010 (k := 5) rfl ⟨_, rfl⟩ (Or.inl (by decide)) d_TrustDesk_settle_51 p_TrustDesk_284_11 rfl rfl (fun M1037 I1038 q1039 K1040 K1040M => ?_)
                            have K1041 : ∀ (a o : Nat) (w : Value), T0 a = some (3, 3, o) → tm_at M0 a 0 2 w → tm_at M1037 a 0 2 w := fun a o w h q => K1040 _ 0 2 _ rfl (K1034 a o w h q)
                            have K1042 : ∀ (a : Nat) (w : Value), T0 a = some (0, 6, 0) → tm_at M0 a 6 8 w → tm_at M1037 a 6 8 w := fun a w h q => K1040 _ 6 8 _ rfl (K1035 a w h q)
                            have K1043 : ∀ (a : Nat) (w : Value), T0 a = some (0, 11, 0) → a ≠ a15 → tm_at M0 a 11 5 w → tm_at M1037 a 11 5 w := fun a w h hx q => tm_at.eq (K1040M _ hx) (K1036 a w h q)
                            refine mv_iload_n d_TrustDesk_settle_54 rfl rfl ?_
                            refine mv_if_ne_t (tgt := 63) d_TrustDesk_settle_55 (by decide) (by decide) ?_
                            refine mv_iload_n d_TrustDesk_settle_63 rfl rfl ?_
                            exact mv_iret d_TrustDesk_settle_64 rfl (by first | rfl | decide) ⟨_, I1038, _, rfl, (Or.inl ⟨K1041, K1042⟩), Or.inr ⟨by omega, _, _, g16, q1039, by decide, K1043⟩⟩
                          · refine mv_iconst (v := 1) d_TrustDesk_canJoin_32 (by decide) ?_
                            refine mv_goto (tgt := 37) d_TrustDesk_canJoin_33 (by decide) ?_
                            refine mv_iret d_TrustDesk_canJoin_37 rfl (by decide) ?_
                            refine mv_iret d_TrustDesk_canBe_66 rfl (by decide) ?_
                            refine mv_if_ne_t (tgt := 24) d_TrustDesk_failureOf_19 (by decide) (by decide) ?_
                            refine mv_aload_n d_TrustDesk_failureOf_24 rfl rfl ?_
                            refine mv_aload_n d_TrustDesk_failureOf_25 rfl rfl ?_
                            refine tr_getK (k := 12) q1019 d_TrustDesk_failureOf_26 f_TrustDesk_73_12 ?_
                            obtain ⟨_, b1050, -⟩ := I1004.1 _ _ t1007
                            refine mv_callV (kc' := 0) (ks' := 0) (As := [.int t]) (st9 := [.int t, .ref o0]) d_TrustDesk_failureOf_29 lV_TrustDesk_114 b1050 rfl (tc_TrustDesk_inForce (d := (d + 5)) (x9 := x9) (o0 := o0) (x1 := t) t1007 I1004.start) rfl (Nat.le_of_ble_eq_true rfl) (Nat.le_of_ble_eq_true rfl) (Nat.le_of_ble_eq_true rfl) (hst := rfl) (fun b1044r M1045 n1046 b1044 => ?_)
                            obtain ⟨T1047, J1048, a1051, rfl, t_a1051⟩ := b1044
                            have I1049 := I1004.call J1048 (tm_sub (by decide)) (Or.inl rfl)
                            have t1052 := J1048.up t1008
                            have t1053 := J1048.up t1007
                            have t1054 := J1048.up t1010
                            have K1055 : ∀ (a o : Nat) (w : Value), T0 a = some (3, 3, o) → tm_at M0 a 0 2 w → tm_at M1045 a 0 2 w := fun a o w h q => J1048.keepL (I1004.up h) (by decide) (K1011 a o w h q)
                            have K1056 : ∀ (a : Nat) (w : Value), T0 a = some (0, 6, 0) → tm_at M0 a 6 8 w → tm_at M1045 a 6 8 w := fun a w h q => J1048.keep (I1004.up h) (by decide) (K1012 a w h q)
                            have K1057 : ∀ (a : Nat) (w : Value), T0 a = some (0, 11, 0) → tm_at M0 a 11 5 w → tm_at M1045 a 11 5 w := fun a w h q => J1048.keep (I1004.up h) (by decide) (K1013 a w h q)
                            have q1058 := J1048.keep t1007 (by decide) q1014
                            have t1059 := J1048.up t1015
                            have q1060 := J1048.keep t1007 (by decide) q1016
                            have t1061 := J1048.up t1017
                            have q1062 := J1048.keepL t1017 (by decide) q1018
                            have q1063 := J1048.keep t1007 (by decide) q1019
                            have q1064 := J1048.keep t1010 (by decide) q1020
                            have q1065 := J1048.keep t1010 (by decide) q1021
                            have q1066 := J1048.keep t1010 (by decide) q1022
                            have q1067 := J1048.keep t1010 (by decide) q1023
                            have q1068 := J1048.keepL t1015 (by decide) q1024
                            have q1069 := J1048.keep t1008 (by decide) q1025
                            have q1070 := J1048.keep t1010 (by decide) q1026
                            have q1071 := J1048.keep t1010 (by decide) q1027
                            refine mv_astore_n (lv' := [(3, .ref a1051), (2, .ref a81), (0, .ref o0), (1, .ref a15)]) d_TrustDesk_failureOf_32 rfl (by decide) rfl ?_
                            refine mv_aload_n d_TrustDesk_failureOf_33 rfl rfl ?_
                            refine mv_aload_n d_TrustDesk_failureOf_34 rfl rfl ?_
                            refine tr_getK (k := 0) q1070 d_TrustDesk_failureOf_35 f_TrustDesk_308_11 ?_
                            refine mv_aload_n d_TrustDesk_failureOf_38 rfl rfl ?_
                            refine mv_aload_n d_TrustDesk_failureOf_39 rfl rfl ?_
                            obtain ⟨_, b1078, -⟩ := I1049.1 _ _ t1053
                            refine mv_callV (kc' := 0) (ks' := 0) (As := [.int v91, .ref a81, .ref a1051]) (st9 := [.ref a1051, .ref a81, .int v91, .ref o0]) d_TrustDesk_failureOf_40 lV_TrustDesk_329 b1078 rfl (tc_TrustDesk_isBarred (d := (d + 4)) (x9 := x9) (o0 := o0) (x1 := v91) (o2 := a81) (o3 := a1051) t1053 t1052 t_a1051 I1049.start) rfl (Nat.le_of_ble_eq_true rfl) (Nat.le_of_ble_eq_true rfl) (Nat.le_of_ble_eq_true rfl) (hst := rfl) (fun b1072r M1073 n1074 b1072 => ?_)
                            obtain ⟨T1075, J1076, v1079, rfl, b1080, b1081⟩ := b1072
                            have I1077 := I1049.call J1076 (tm_sub (by decide)) (Or.inl rfl)
                            have t1082 := J1076.up t_a1051
                            have t1083 := J1076.up t1052
                            have t1084 := J1076.up t1053
                            have t1085 := J1076.up t1054
                            have K1086 : ∀ (a o : Nat) (w : Value), T0 a = some (3, 3, o) → tm_at M0 a 0 2 w → tm_at M1073 a 0 2 w := fun a o w h q => J1076.keepL (I1049.up h) (by decide) (K1055 a o w h q)
                            have K1087 : ∀ (a : Nat) (w : Value), T0 a = some (0, 6, 0) → tm_at M0 a 6 8 w → tm_at M1073 a 6 8 w := fun a w h q => J1076.keep (I1049.up h) (by decide) (K1056 a w h q)
                            have K1088 : ∀ (a : Nat) (w : Value), T0 a = some (0, 11, 0) → tm_at M0 a 11 5 w → tm_at M1073 a 11 5 w := fun a w h q => J1076.keep (I1049.up h) (by decide) (K1057 a w h q)
                            have q1089 := J1076.keep t1053 (by decide) q1058
                            have t1090 := J1076.up t1059
                            have q1091 := J1076.keep t1053 (by decide) q1060
                            have t1092 := J1076.up t1061
                            have q1093 := J1076.keepL t1061 (by decide) q1062
                            have q1094 := J1076.keep t1053 (by decide) q1063
                            have q1095 := J1076.keep t1054 (by decide) q1064
                            have q1096 := J1076.keep t1054 (by decide) q1065
                            have q1097 := J1076.keep t1054 (by decide) q1066
                            have q1098 := J1076.keep t1054 (by decide) q1067
                            have q1099 := J1076.keepL t1059 (by decide) q1068
                            have q1100 := J1076.keep t1052 (by decide) q1069
                            have q1101 := J1076.keep t1054 (by decide) q1070
                            have q1102 := J1076.keep t1054 (by decide) q1071
                            have := mz_hi v1079
                            refine mv_if_eqZ (tgt := 48) (a := v1079.toInt) d_TrustDesk_failureOf_43 (by decide) rfl (fun b1103 => ?_) (fun b1103 => ?_)
                            · refine mv_aload_n d_TrustDesk_failureOf_48 rfl rfl ?_
                              refine mv_aload_n d_TrustDesk_failureOf_49 rfl rfl ?_
                              refine mv_aload_n d_TrustDesk_failureOf_50 rfl rfl ?_
                              obtain ⟨_, b1110, -⟩ := I1077.1 _ _ t1084
                              refine mv_callV (kc' := 0) (ks' := 0) (As := [.ref a15, .ref a81]) (st9 := [.ref a81, .ref a15, .ref o0]) d_TrustDesk_failureOf_51 lV_TrustDesk_333 b1110 rfl (tc_TrustDesk_marksLeft (d := (d + 4)) (x9 := x9) (o0 := o0) (o1 := a15) (o2 := a81) t1084 t1085 t1083 I1077.start) rfl (Nat.le_of_ble_eq_true rfl) (Nat.le_of_ble_eq_true rfl) (Nat.le_of_ble_eq_true rfl) (hst := rfl) (fun b1104r M1105 n1106 b1104 => ?_)
                              obtain ⟨T1107, J1108, v1111, rfl⟩ := b1104
                              have I1109 := I1077.call J1108 (tm_sub (by decide)) (Or.inl rfl)
                              have t1112 := J1108.up t1082
                              have t1113 := J1108.up t1083
                              have t1114 := J1108.up t1084
                              have t1115 := J1108.up t1085
                              have K1116 : ∀ (a o : Nat) (w : Value), T0 a = some (3, 3, o) → tm_at M0 a 0 2 w → tm_at M1105 a 0 2 w := fun a o w h q => J1108.keepL (I1077.up h) (by decide) (K1086 a o w h q)
                              have K1117 : ∀ (a : Nat) (w : Value), T0 a = some (0, 6, 0) → tm_at M0 a 6 8 w → tm_at M1105 a 6 8 w := fun a w h q => J1108.keep (I1077.up h) (by decide) (K1087 a w h q)
                              have K1118 : ∀ (a : Nat) (w : Value), T0 a = some (0, 11, 0) → tm_at M0 a 11 5 w → tm_at M1105 a 11 5 w := fun a w h q => J1108.keep (I1077.up h) (by decide) (K1088 a w h q)
                              have q1119 := J1108.keep t1084 (by decide) q1089
                              have t1120 := J1108.up t1090
                              have q1121 := J1108.keep t1084 (by decide) q1091
                              have t1122 := J1108.up t1092
                              have q1123 := J1108.keepL t1092 (by decide) q1093
                              have q1124 := J1108.keep t1084 (by decide) q1094
                              have q1125 := J1108.keep t1085 (by decide) q1095
                              have q1126 := J1108.keep t1085 (by decide) q1096
                              have q1127 := J1108.keep t1085 (by decide) q1097
                              have q1128 := J1108.keep t1085 (by decide) q1098
                              have q1129 := J1108.keepL t1090 (by decide) q1099
                              have q1130 := J1108.keep t1083 (by decide) q1100
                              have q1131 := J1108.keep t1085 (by decide) q1101
                              have q1132 := J1108.keep t1085 (by decide) q1102
                              refine mv_callS (kc' := 0) (ks' := 0) (As := [.int v1111]) (st9 := [.int v1111]) d_TrustDesk_failureOf_54 lS_TrustDesk_337 (tc_Integer_bitCount (d := (d + 8)) (x9 := x9) (x1 := v1111)  I1109.start) rfl (Nat.le_of_ble_eq_true rfl) (Nat.le_of_ble_eq_true rfl) (Nat.le_of_ble_eq_true rfl) (hst := rfl) (fun b1133r M1134 n1135 b1133 => ?_)
                              obtain ⟨T1136, J1137, v1139, rfl⟩ := b1133
                              have I1138 := I1109.call J1137 (tm_sub (by decide)) (Or.inl rfl)
                              have t1140 := J1137.up t1112
                              have t1141 := J1137.up t1113
                              have t1142 := J1137.up t1114
                              have t1143 := J1137.up t1115
                              have K1144 : ∀ (a o : Nat) (w : Value), T0 a = some (3, 3, o) → tm_at M0 a 0 2 w → tm_at M1134 a 0 2 w := fun a o w h q => J1137.keepL (I1109.up h) (by decide) (K1116 a o w h q)
                              have K1145 : ∀ (a : Nat) (w : Value), T0 a = some (0, 6, 0) → tm_at M0 a 6 8 w → tm_at M1134 a 6 8 w := fun a w h q => J1137.keep (I1109.up h) (by decide) (K1117 a w h q)
                              have K1146 : ∀ (a : Nat) (w : Value), T0 a = some (0, 11, 0) → tm_at M0 a 11 5 w → tm_at M1134 a 11 5 w := fun a w h q => J1137.keep (I1109.up h) (by decide) (K1118 a w h q)
                              have q1147 := J1137.keep t1114 (by decide) q1119
                              have t1148 := J1137.up t1120
                              have q1149 := J1137.keep t1114 (by decide) q1121
                              have t1150 := J1137.up t1122
                              have q1151 := J1137.keepL t1122 (by decide) q1123
                              have q1152 := J1137.keep t1114 (by decide) q1124
                              have q1153 := J1137.keep t1115 (by decide) q1125
                              have q1154 := J1137.keep t1115 (by decide) q1126
                              have q1155 := J1137.keep t1115 (by decide) q1127
                              have q1156 := J1137.keep t1115 (by decide) q1128
                              have q1157 := J1137.keepL t1120 (by decide) q1129
                              have q1158 := J1137.keep t1113 (by decide) q1130
                              have q1159 := J1137.keep t1115 (by decide) q1131
                              have q1160 := J1137.keep t1115 (by decide) q1132
                              refine mv_aload_n d_TrustDesk_failureOf_57 rfl rfl ?_
                              refine mv_iconst (v := 1) d_TrustDesk_failureOf_58 (by decide) ?_
                              obtain ⟨_, b1167, -⟩ := I1138.1 _ _ t1140
                              refine mv_callV (kc' := 0) (ks' := 0) (As := [.int 1]) (st9 := [.int 1, .ref a1051, .int v1139]) d_TrustDesk_failureOf_59 lV_TrustDesk_118 b1167 rfl (tc_Act_rule (d := (d + 8)) (x9 := x9) (o0 := a1051) (x1 := 1) t1140 I1138.start) rfl (Nat.le_of_ble_eq_true rfl) (Nat.le_of_ble_eq_true rfl) (Nat.le_of_ble_eq_true rfl) (hst := rfl) (fun b1161r M1162 n1163 b1161 => ?_)
                              obtain ⟨T1164, J1165, v1168, rfl⟩ := b1161
                              have I1166 := I1138.call J1165 (tm_sub (by decide)) (Or.inl rfl)
                              have t1169 := J1165.up t1140
                              have t1170 := J1165.up t1141
                              have t1171 := J1165.up t1142
                              have t1172 := J1165.up t1143
                              have K1173 : ∀ (a o : Nat) (w : Value), T0 a = some (3, 3, o) → tm_at M0 a 0 2 w → tm_at M1162 a 0 2 w := fun a o w h q => J1165.keepL (I1138.up h) (by decide) (K1144 a o w h q)
                              have K1174 : ∀ (a : Nat) (w : Value), T0 a = some (0, 6, 0) → tm_at M0 a 6 8 w → tm_at M1162 a 6 8 w := fun a w h q => J1165.keep (I1138.up h) (by decide) (K1145 a w h q)
                              have K1175 : ∀ (a : Nat) (w : Value), T0 a = some (0, 11, 0) → tm_at M0 a 11 5 w → tm_at M1162 a 11 5 w := fun a w h q => J1165.keep (I1138.up h) (by decide) (K1146 a w h q)
                              have q1176 := J1165.keep t1142 (by decide) q1147
                              have t1177 := J1165.up t1148
                              have q1178 := J1165.keep t1142 (by decide) q1149
                              have t1179 := J1165.up t1150
                              have q1180 := J1165.keepL t1150 (by decide) q1151
                              have q1181 := J1165.keep t1142 (by decide) q1152
                              have q1182 := J1165.keep t1143 (by decide) q1153
                              have q1183 := J1165.keep t1143 (by decide) q1154
                              have q1184 := J1165.keep t1143 (by decide) q1155
                              have q1185 := J1165.keep t1143 (by decide) q1156
                              have q1186 := J1165.keepL t1148 (by decide) q1157
                              have q1187 := J1165.keep t1141 (by decide) q1158
                              have q1188 := J1165.keep t1143 (by decide) q1159
                              have q1189 := J1165.keep t1143 (by decide) q1160
                              have := mz_hi v1139
                              have := mz_hi v1168
                              refine mv_icmp_geZ (tgt := 67) (a := v1139.toInt) (b := v1168.toInt) d_TrustDesk_failureOf_62 (by decide) rfl rfl (fun b1190 => ?_) (fun b1190 => ?_)
                              · refine mv_aload_n d_TrustDesk_failureOf_67 rfl rfl ?_
                                refine mv_aload_n d_TrustDesk_failureOf_68 rfl rfl ?_
                                refine mv_aload_n d_TrustDesk_failureOf_69 rfl rfl ?_
                                obtain ⟨_, b1197, -⟩ := I1166.1 _ _ t1171
                                refine mv_callV (kc' := 0) (ks' := 0) (As := [.ref a15, .ref a81]) (st9 := [.ref a81, .ref a15, .ref o0]) d_TrustDesk_failureOf_70 lV_TrustDesk_342 b1197 rfl (tc_TrustDesk_isCarried (d := (d + 4)) (x9 := x9) (o0 := o0) (o1 := a15) (o2 := a81) t1171 t1172 t1170 I1166.start) rfl (Nat.le_of_ble_eq_true rfl) (Nat.le_of_ble_eq_true rfl) (Nat.le_of_ble_eq_true rfl) (hst := rfl) (fun b1191r M1192 n1193 b1191 => ?_)
                                obtain ⟨T1194, J1195, v1198, rfl, b1199, b1200⟩ := b1191
                                have I1196 := I1166.call J1195 (tm_sub (by decide)) (Or.inl rfl)
                                have t1201 := J1195.up t1169
                                have t1202 := J1195.up t1170
                                have t1203 := J1195.up t1171
                                have t1204 := J1195.up t1172
                                have K1205 : ∀ (a o : Nat) (w : Value), T0 a = some (3, 3, o) → tm_at M0 a 0 2 w → tm_at M1192 a 0 2 w := fun a o w h q => J1195.keepL (I1166.up h) (by decide) (K1173 a o w h q)
                                have K1206 : ∀ (a : Nat) (w : Value), T0 a = some (0, 6, 0) → tm_at M0 a 6 8 w → tm_at M1192 a 6 8 w := fun a w h q => J1195.keep (I1166.up h) (by decide) (K1174 a w h q)
                                have K1207 : ∀ (a : Nat) (w : Value), T0 a = some (0, 11, 0) → tm_at M0 a 11 5 w → tm_at M1192 a 11 5 w := fun a w h q => J1195.keep (I1166.up h) (by decide) (K1175 a w h q)
                                have q1208 := J1195.keep t1171 (by decide) q1176
                                have t1209 := J1195.up t1177
                                have q1210 := J1195.keep t1171 (by decide) q1178
                                have t1211 := J1195.up t1179
                                have q1212 := J1195.keepL t1179 (by decide) q1180
                                have q1213 := J1195.keep t1171 (by decide) q1181
                                have q1214 := J1195.keep t1172 (by decide) q1182
                                have q1215 := J1195.keep t1172 (by decide) q1183
                                have q1216 := J1195.keep t1172 (by decide) q1184
                                have q1217 := J1195.keep t1172 (by decide) q1185
                                have q1218 := J1195.keepL t1177 (by decide) q1186
                                have q1219 := J1195.keep t1170 (by decide) q1187
                                have q1220 := J1195.keep t1172 (by decide) q1188
                                have q1221 := J1195.keep t1172 (by decide) q1189
                                have := mz_hi v1198
                                refine mv_if_neZ (tgt := 78) (a := v1198.toInt) d_TrustDesk_failureOf_73 (by decide) rfl (fun b1222 => ?_) (fun b1222 => ?_)
                                · refine mv_aload_n d_TrustDesk_failureOf_78 rfl rfl ?_
                                  refine tr_getK (k := 7) q1216 d_TrustDesk_failureOf_79 f_TrustDesk_345_11 ?_
                                  have := mz_hi c22
                                  refine mv_if_leZ (tgt := 89) (a := c22.toInt) d_TrustDesk_failureOf_82 (by decide) rfl (fun b1223 => ?_) (fun b1223 => ?_)
                                  · refine mv_iconst (v := 0) d_TrustDesk_failureOf_89 (by decide) ?_
                                    refine mv_iret d_TrustDesk_failureOf_90 rfl (by first | rfl | decide) ?_
                                    refine mv_istore_n (lv' := [(3, .int 0), (2, .ref a15), (0, .ref o0), (1, .int x1)]) d_TrustDesk_settle_35 rfl (by decide) rfl ?_
                                    refine mv_aload_n d_TrustDesk_settle_36 rfl rfl ?_
                                    refine mv_iload_n d_TrustDesk_settle_37 rfl rfl ?_
                                    refine tr_putKM tm_okF I1196 t1204 (k := 6) rfl ⟨_, rfl⟩ (Or.inl (by decide)) d_TrustDesk_settle_38 p_TrustDesk_318_11 rfl rfl (fun M1224 I1225 q1226 K1227 K1227M => ?_)
                                    have K1228 : ∀ (a o : Nat) (w : Value), T0 a = some (3, 3, o) → tm_at M0 a 0 2 w → tm_at M1224 a 0 2 w := fun a o w h q => K1227 _ 0 2 _ rfl (K1205 a o w h q)
                                    have K1229 : ∀ (a : Nat) (w : Value), T0 a = some (0, 6, 0) → tm_at M0 a 6 8 w → tm_at M1224 a 6 8 w := fun a w h q => K1227 _ 6 8 _ rfl (K1206 a w h q)
                                    have K1230 : ∀ (a : Nat) (w : Value), T0 a = some (0, 11, 0) → tm_at M0 a 11 5 w → tm_at M1224 a 11 5 w := fun a w h q => K1227 _ 11 5 _ rfl (K1207 a w h q)
                                    refine mv_aload_n d_TrustDesk_settle_41 rfl rfl ?_
                                    refine mv_iload_n d_TrustDesk_settle_42 rfl rfl ?_
                                    refine mv_if_ne_f (tgt := 50) d_TrustDesk_settle_43 (by decide) (by decide) ?_
                                    refine mv_iconst (v := 1) d_TrustDesk_settle_46 (by decide) ?_
                                    refine mv_goto (tgt := 51) d_TrustDesk_settle_47 (by decide) ?_
                                    refine tr_putKM tm_okF I1225 t1204 (k := 5) rfl ⟨_, rfl⟩ (Or.inl (by decide)) d_TrustDesk_settle_51 p_TrustDesk_284_11 rfl rfl (fun M1231 I1232 q1233 K1234 K1234M => ?_)
                                    have K1235 : ∀ (a o : Nat) (w : Value), T0 a = some (3, 3, o) → tm_at M0 a 0 2 w → tm_at M1231 a 0 2 w := fun a o w h q => K1234 _ 0 2 _ rfl (K1228 a o w h q)
                                    have K1236 : ∀ (a : Nat) (w : Value), T0 a = some (0, 6, 0) → tm_at M0 a 6 8 w → tm_at M1231 a 6 8 w := fun a w h q => K1234 _ 6 8 _ rfl (K1229 a w h q)
                                    have K1237 : ∀ (a : Nat) (w : Value), T0 a = some (0, 11, 0) → a ≠ a15 → tm_at M0 a 11 5 w → tm_at M1231 a 11 5 w := fun a w h hx q => tm_at.eq (K1234M _ hx) (K1230 a w h q)
                                    refine mv_iload_n d_TrustDesk_settle_54 rfl rfl ?_
                                    refine mv_if_ne_f (tgt := 63) d_TrustDesk_settle_55 (by decide) (by decide) ?_
                                    refine mv_aload_n d_TrustDesk_settle_58 rfl rfl ?_
                                    refine mv_aload_n d_TrustDesk_settle_59 rfl rfl ?_
                                    obtain ⟨_, b1238, -⟩ := I1232.1 _ _ t1203
                                    refine mv_callV (kc1 := 146) (ks1 := 11534) (kc' := 0) (ks' := 0) (As := [.ref a15]) (st9 := [.ref a15, .ref o0]) d_TrustDesk_settle_60 lV_TrustDesk_321 b1238 rfl (mj_enter (by decide) (Nat.le_of_ble_eq_true rfl) ?_) rfl (Nat.le_of_ble_eq_true rfl) (Nat.le_of_ble_eq_true rfl) (Nat.le_of_ble_eq_true rfl) (hst := rfl) (fun _ _ _ h => h)
                                    refine mv_aload_n d_TrustDesk_carryOut_0 rfl rfl ?_
                                    refine mv_aload_n d_TrustDesk_carryOut_1 rfl rfl ?_
                                    refine tr_getK (k := 1) (K1234 _ 11 1 _ rfl (K1227 _ 11 1 _ rfl q1217)) d_TrustDesk_carryOut_2 f_TrustDesk_302_11 ?_
                                    obtain ⟨_, b1239, -⟩ := I1232.1 _ _ t1203
                                    refine mv_callV (kc1 := 0) (ks1 := 0) (kc' := 146) (ks' := 11534) (As := [.int v36]) (st9 := [.int v36, .ref o0]) d_TrustDesk_carryOut_5 lV_TrustDesk_257 b1239 rfl (mj_enter (by decide) (Nat.le_of_ble_eq_true rfl) ?_) rfl (Nat.le_of_ble_eq_true rfl) (Nat.le_of_ble_eq_true rfl) (Nat.le_of_ble_eq_true rfl) (hst := rfl) (fun _ _ _ h => h)
                                    refine mv_iload_n d_TrustDesk_fundAt_0 rfl rfl ?_
                                    have := mz_hi v36
                                    refine mv_if_ltZ (tgt := 29) (a := v36.toInt) d_TrustDesk_fundAt_1 (by decide) rfl (fun b1240 => absurd b1240 (by omega)) (fun b1240 => ?_)
                                    refine mv_iload_n d_TrustDesk_fundAt_4 rfl rfl ?_
                                    refine mv_aload_n d_TrustDesk_fundAt_5 rfl rfl ?_
                                    refine tr_getK (k := 6) (K1234 _ 12 6 _ rfl (K1227 _ 12 6 _ rfl q1208)) d_TrustDesk_fundAt_6 f_TrustDesk_53_12 ?_
                                    obtain ⟨m1242, e1243, N1244, f1245, h1241⟩ := tm_lsn I1232 t1209 (K1234 _ 0 2 _ rfl (K1227 _ 0 2 _ rfl q1218))
                                    refine mv_callV_s (kc' := 0) (ks' := 0) [] [.ref Lf, .int v36] d_TrustDesk_fundAt_9 lV_TrustDesk_97 h1241.1 rfl (tc_L_size (d := (d + 7)) h1241.1) rfl (Nat.le_of_ble_eq_true rfl) (Nat.le_of_ble_eq_true rfl) (Nat.le_of_ble_eq_true rfl) rfl ?_
                                    have := mz_hi v36
                                    have := mz_hi n58
                                    refine mv_icmp_geZ (tgt := 29) (a := v36.toInt) (b := n58.toInt) d_TrustDesk_fundAt_12 (by decide) rfl rfl (fun b1246 => ?_) (fun b1246 => ?_)
                                    · refine mv_null d_TrustDesk_fundAt_29 ?_
                                      refine mv_aret (r := none) d_TrustDesk_fundAt_30 rfl (by first | exact Or.inl ⟨_, rfl⟩ | exact Or.inr ⟨_, rfl⟩) ?_
                                      refine mv_astore_nN (lv' := [(2, .null), (0, .ref o0), (1, .ref a15)]) d_TrustDesk_carryOut_8 rfl (by decide) rfl ?_
                                      refine mv_aload_nN d_TrustDesk_carryOut_9 rfl rfl ?_
                                      refine mv_ifnonnullN d_TrustDesk_carryOut_10 ?_
                                      refine mv_vret d_TrustDesk_carryOut_13 rfl ?_
                                      refine mv_iload_n d_TrustDesk_settle_63 rfl rfl ?_
                                      exact mv_iret d_TrustDesk_settle_64 rfl (by first | rfl | decide) ⟨_, I1232, _, rfl, (Or.inl ⟨K1235, K1236⟩), Or.inr ⟨by omega, _, _, g16, q1233, by decide, K1237⟩⟩
                                    · refine mv_aload_n d_TrustDesk_fundAt_15 rfl rfl ?_
                                      refine tr_getK (k := 6) (K1234 _ 12 6 _ rfl (K1227 _ 12 6 _ rfl q1208)) d_TrustDesk_fundAt_16 f_TrustDesk_53_12 ?_
                                      refine mv_iload_n d_TrustDesk_fundAt_19 rfl rfl ?_
                                      obtain ⟨m1248, e1249, N1250, f1251, h1247⟩ := tm_lsn I1232 t1209 (K1234 _ 0 2 _ rfl (K1227 _ 0 2 _ rfl q1218))
                                      have u1252e := (tm_el (i := v36) h1247 (by omega) (by omega)).1
                                      have u1252i := (tm_el (i := v36) h1247 (by omega) (by omega)).2.1
                                      obtain ⟨_, u1252f, u1252t⟩ := tm_ge.el h1247 (I1232.keepG I0.1 h_Lf (by decide) g82)
                                      have t_z1253 : T1194 a81 = some (0, 6, 0) := u1252t
                                      refine mv_callV_s (kc' := 0) (ks' := 0) [.int v36] [.int v36, .ref Lf] d_TrustDesk_fundAt_20 lV_TrustDesk_158 h1247.1 rfl (tc_L_get (d := (d + 5)) h1247.1 u1252e (by omega) (by omega) u1252i u1252f) rfl (Nat.le_of_ble_eq_true rfl) (Nat.le_of_ble_eq_true rfl) (Nat.le_of_ble_eq_true rfl) rfl ?_
                                      obtain ⟨_, b1254, -⟩ := I1232.1 _ _ t_z1253
                                      refine mv_castS (T9 := kF_Fund) (N := 15) d_TrustDesk_fundAt_23 (mj_in1 (List.mem_of_getElem? (i := 655) (by decide +kernel)) rfl) b1254 rfl ?_
                                      refine mv_goto (tgt := 30) d_TrustDesk_fundAt_26 (by decide) ?_
                                      refine mv_aret (r := (some a81)) d_TrustDesk_fundAt_30 rfl (by first | exact Or.inl ⟨_, rfl⟩ | exact Or.inr ⟨_, rfl⟩) ?_
                                      refine mv_astore_n (lv' := [(2, .ref a81), (0, .ref o0), (1, .ref a15)]) d_TrustDesk_carryOut_8 rfl (by decide) rfl ?_
                                      refine mv_aload_n d_TrustDesk_carryOut_9 rfl rfl ?_
                                      refine mv_ifnonnull (tgt := 14) d_TrustDesk_carryOut_10 (by decide) ?_
                                      refine mv_aload_n d_TrustDesk_carryOut_14 rfl rfl ?_
                                      refine tr_getK (k := 0) (K1234 _ 11 0 _ rfl (K1227 _ 11 0 _ rfl q1220)) d_TrustDesk_carryOut_15 f_TrustDesk_308_11 ?_
                                      refine mv_tableIn (tgt := 60) (off := 42) d_TrustDesk_carryOut_18 (by omega) (by omega) (by rw [b92]; rfl) (by decide) ?_
                                      refine mv_aload_n d_TrustDesk_carryOut_60 rfl rfl ?_
                                      refine mv_aload_n d_TrustDesk_carryOut_61 rfl rfl ?_
                                      refine mv_aload_n d_TrustDesk_carryOut_62 rfl rfl ?_
                                      refine mv_aload_n d_TrustDesk_carryOut_63 rfl rfl ?_
                                      refine tr_getK (k := 2) (K1234 _ 11 2 _ rfl (K1227 _ 11 2 _ rfl q1221)) d_TrustDesk_carryOut_64 f_TrustDesk_311_11 ?_
                                      obtain ⟨_, b1255, -⟩ := I1232.1 _ _ t1203
                                      refine mv_callV (kc1 := 0) (ks1 := 0) (kc' := 146) (ks' := 11534) (As := [.int v900]) (st9 := [.int v900, .ref o0, .ref a81, .ref o0]) d_TrustDesk_carryOut_67 lV_TrustDesk_257 b1255 rfl (mj_enter (by decide) (Nat.le_of_ble_eq_true rfl) ?_) rfl (Nat.le_of_ble_eq_true rfl) (Nat.le_of_ble_eq_true rfl) (Nat.le_of_ble_eq_true rfl) (hst := rfl) (fun _ _ _ h => h)
                                      refine mv_iload_n d_TrustDesk_fundAt_0 rfl rfl ?_
                                      have := mz_hi v900
                                      refine mv_if_ltZ (tgt := 29) (a := v900.toInt) d_TrustDesk_fundAt_1 (by decide) rfl (fun b1256 => absurd b1256 (by omega)) (fun b1256 => ?_)
                                      refine mv_iload_n d_TrustDesk_fundAt_4 rfl rfl ?_
                                      refine mv_aload_n d_TrustDesk_fundAt_5 rfl rfl ?_
                                      refine tr_getK (k := 6) (K1234 _ 12 6 _ rfl (K1227 _ 12 6 _ rfl q1208)) d_TrustDesk_fundAt_6 f_TrustDesk_53_12 ?_
                                      obtain ⟨m1258, e1259, N1260, f1261, h1257⟩ := tm_lsn I1232 t1209 (K1234 _ 0 2 _ rfl (K1227 _ 0 2 _ rfl q1218))
                                      refine mv_callV_s (kc' := 0) (ks' := 0) [] [.ref Lf, .int v900] d_TrustDesk_fundAt_9 lV_TrustDesk_97 h1257.1 rfl (tc_L_size (d := (d + 7)) h1257.1) rfl (Nat.le_of_ble_eq_true rfl) (Nat.le_of_ble_eq_true rfl) (Nat.le_of_ble_eq_true rfl) rfl ?_
                                      have := mz_hi v900
                                      have := mz_hi n58
                                      refine mv_icmp_geZ (tgt := 29) (a := v900.toInt) (b := n58.toInt) d_TrustDesk_fundAt_12 (by decide) rfl rfl (fun b1262 => ?_) (fun b1262 => ?_)
                                      · refine mv_null d_TrustDesk_fundAt_29 ?_
                                        refine mv_aret (r := none) d_TrustDesk_fundAt_30 rfl (by first | exact Or.inl ⟨_, rfl⟩ | exact Or.inr ⟨_, rfl⟩) ?_
                                        obtain ⟨_, b1263, -⟩ := I1232.1 _ _ t1203
                                        refine mv_callV (kc1 := 0) (ks1 := 0) (kc' := 0) (ks' := 0) (As := [.ref a81, .null]) (st9 := [.null, .ref a81, .ref o0]) d_TrustDesk_carryOut_70 lV_TrustDesk_395 b1263 rfl (mj_enter (by decide) (Nat.le_of_ble_eq_true rfl) ?_) rfl (Nat.le_of_ble_eq_true rfl) (Nat.le_of_ble_eq_true rfl) (Nat.le_of_ble_eq_true rfl) (hst := rfl) (fun _ _ _ h => h)
                                        refine mv_aload_nN d_TrustDesk_join_0 rfl rfl ?_
                                        refine mv_ifnonnullN d_TrustDesk_join_1 ?_
                                        refine mv_vret d_TrustDesk_join_4 rfl ?_
                                        refine mv_goto (tgt := 100) d_TrustDesk_carryOut_73 (by decide) ?_
                                        refine mv_vret d_TrustDesk_carryOut_100 rfl ?_
                                        refine mv_iload_n d_TrustDesk_settle_63 rfl rfl ?_
                                        exact mv_iret d_TrustDesk_settle_64 rfl (by first | rfl | decide) ⟨_, I1232, _, rfl, (Or.inl ⟨K1235, K1236⟩), Or.inr ⟨by omega, _, _, g16, q1233, by decide, K1237⟩⟩
                                      · refine mv_aload_n d_TrustDesk_fundAt_15 rfl rfl ?_
                                        refine tr_getK (k := 6) (K1234 _ 12 6 _ rfl (K1227 _ 12 6 _ rfl q1208)) d_TrustDesk_fundAt_16 f_TrustDesk_53_12 ?_
                                        refine mv_iload_n d_TrustDesk_fundAt_19 rfl rfl ?_
                                        obtain ⟨m1265, e1266, N1267, f1268, h1264⟩ := tm_lsn I1232 t1209 (K1234 _ 0 2 _ rfl (K1227 _ 0 2 _ rfl q1218))
                                        have u1269e := (tm_el (i := v900) h1264 (by omega) (by omega)).1
                                        have u1269i := (tm_el (i := v900) h1264 (by omega) (by omega)).2.1
                                        obtain ⟨_, u1269f, u1269t⟩ := tm_ge.el h1264 (I1232.keepG I0.1 h_Lf (by decide) g946)
                                        have t_z1270 : T1194 a945 = some (0, 6, 0) := u1269t
                                        refine mv_callV_s (kc' := 0) (ks' := 0) [.int v900] [.int v900, .ref Lf] d_TrustDesk_fundAt_20 lV_TrustDesk_158 h1264.1 rfl (tc_L_get (d := (d + 5)) h1264.1 u1269e (by omega) (by omega) u1269i u1269f) rfl (Nat.le_of_ble_eq_true rfl) (Nat.le_of_ble_eq_true rfl) (Nat.le_of_ble_eq_true rfl) rfl ?_
                                        obtain ⟨_, b1271, -⟩ := I1232.1 _ _ t_z1270
                                        refine mv_castS (T9 := kF_Fund) (N := 15) d_TrustDesk_fundAt_23 (mj_in1 (List.mem_of_getElem? (i := 655) (by decide +kernel)) rfl) b1271 rfl ?_
                                        refine mv_goto (tgt := 30) d_TrustDesk_fundAt_26 (by decide) ?_
                                        refine mv_aret (r := (some a945)) d_TrustDesk_fundAt_30 rfl (by first | exact Or.inl ⟨_, rfl⟩ | exact Or.inr ⟨_, rfl⟩) ?_
                                        obtain ⟨_, b1272, -⟩ := I1232.1 _ _ t1203
                                        refine mv_callV (kc1 := 146) (ks1 := 11534) (kc' := 0) (ks' := 0) (As := [.ref a81, .ref a945]) (st9 := [.ref a945, .ref a81, .ref o0]) d_TrustDesk_carryOut_70 lV_TrustDesk_395 b1272 rfl (mj_enter (by decide) (Nat.le_of_ble_eq_true rfl) ?_) rfl (Nat.le_of_ble_eq_true rfl) (Nat.le_of_ble_eq_true rfl) (Nat.le_of_ble_eq_true rfl) (hst := rfl) (fun _ _ _ h => h)
                                        refine mv_aload_n d_TrustDesk_join_0 rfl rfl ?_
                                        refine mv_ifnonnull (tgt := 5) d_TrustDesk_join_1 (by decide) ?_
                                        refine mv_aload_n d_TrustDesk_join_5 rfl rfl ?_
                                        refine mv_aload_n d_TrustDesk_join_6 rfl rfl ?_
                                        obtain ⟨_, b1279, -⟩ := I1232.1 _ _ t1203
                                        refine mv_callV (kc' := 146) (ks' := 11534) (As := [.ref a81]) (st9 := [.ref a81, .ref o0]) d_TrustDesk_join_7 lV_TrustDesk_412 b1279 rfl (tc_TrustDesk_worthOf (d := (d + 6)) (x9 := x9) (o0 := o0) (o1 := a81) t1203 t_z1253 I1232.start) rfl (Nat.le_of_ble_eq_true rfl) (Nat.le_of_ble_eq_true rfl) (Nat.le_of_ble_eq_true rfl) (hst := rfl) (fun b1273r M1274 n1275 b1273 => ?_)
                                        obtain ⟨T1276, J1277, v1280, rfl⟩ := b1273
                                        have I1278 := I1232.call J1277 (tm_sub (by decide)) (Or.inl rfl)
                                        have t1281 := J1277.up t1203
                                        have t1282 := J1277.up t_z1253
                                        have t1283 := J1277.up t_z1270
                                        have t1284 := J1277.up t1204
                                        have K1285 : ∀ (a o : Nat) (w : Value), T0 a = some (3, 3, o) → tm_at M0 a 0 2 w → tm_at M1274 a 0 2 w := fun a o w h q => J1277.keepL (I1232.up h) (by decide) (K1235 a o w h q)
                                        have K1286 : ∀ (a : Nat) (w : Value), T0 a = some (0, 6, 0) → tm_at M0 a 6 8 w → tm_at M1274 a 6 8 w := fun a w h q => J1277.keep (I1232.up h) (by decide) (K1236 a w h q)
                                        have K1287 : ∀ (a : Nat) (w : Value), T0 a = some (0, 11, 0) → a ≠ a15 → tm_at M0 a 11 5 w → tm_at M1274 a 11 5 w := fun a w h hx q => J1277.keep (I1232.up h) (by decide) (K1237 a w h hx q)
                                        have q1288 := J1277.keep t1203 (by decide) (K1234 _ 12 6 _ rfl (K1227 _ 12 6 _ rfl q1208))
                                        have t1289 := J1277.up t1209
                                        have q1290 := J1277.keep t1203 (by decide) (K1234 _ 12 8 _ rfl (K1227 _ 12 8 _ rfl q1210))
                                        have t1291 := J1277.up t1211
                                        have q1292 := J1277.keepL t1211 (by decide) (K1234 _ 0 2 _ rfl (K1227 _ 0 2 _ rfl q1212))
                                        have q1293 := J1277.keep t1203 (by decide) (K1234 _ 12 12 _ rfl (K1227 _ 12 12 _ rfl q1213))
                                        have q1294 := J1277.keep t1204 (by decide) (K1234 _ 11 4 _ rfl (K1227 _ 11 4 _ rfl q1214))
                                        have q1295 := J1277.keep t1204 (by decide) (K1234 _ 11 7 _ rfl (K1227 _ 11 7 _ rfl q1216))
                                        have q1296 := J1277.keep t1204 (by decide) (K1234 _ 11 1 _ rfl (K1227 _ 11 1 _ rfl q1217))
                                        have q1297 := J1277.keepL t1209 (by decide) (K1234 _ 0 2 _ rfl (K1227 _ 0 2 _ rfl q1218))
                                        have q1298 := J1277.keep t1202 (by decide) (K1234 _ 6 8 _ rfl (K1227 _ 6 8 _ rfl q1219))
                                        have q1299 := J1277.keep t1204 (by decide) (K1234 _ 11 0 _ rfl (K1227 _ 11 0 _ rfl q1220))
                                        have q1300 := J1277.keep t1204 (by decide) (K1234 _ 11 2 _ rfl (K1227 _ 11 2 _ rfl q1221))
                                        have q1301 := J1277.keep t1204 (by decide) (K1234 _ 11 6 _ rfl q1226)
                                        have q1302 := J1277.keep t1204 (by decide) q1233
                                        refine mv_lstore_n (lv' := [(3, .long v1280), (0, .ref o0), (1, .ref a81), (2, .ref a945)]) d_TrustDesk_join_10 rfl (by decide) rfl ?_
                                        refine mv_aload_n d_TrustDesk_join_11 rfl rfl ?_
                                        refine mv_aload_n d_TrustDesk_join_12 rfl rfl ?_
                                        obtain ⟨_, b1309, -⟩ := I1278.1 _ _ t1281
                                        refine mv_callV (kc' := 146) (ks' := 11534) (As := [.ref a945]) (st9 := [.ref a945, .ref o0]) d_TrustDesk_join_13 lV_TrustDesk_412 b1309 rfl (tc_TrustDesk_worthOf (d := (d + 6)) (x9 := x9) (o0 := o0) (o1 := a945) t1281 t1283 I1278.start) rfl (Nat.le_of_ble_eq_true rfl) (Nat.le_of_ble_eq_true rfl) (Nat.le_of_ble_eq_true rfl) (hst := rfl) (fun b1303r M1304 n1305 b1303 => ?_)
                                        obtain ⟨T1306, J1307, v1310, rfl⟩ := b1303
                                        have I1308 := I1278.call J1307 (tm_sub (by decide)) (Or.inl rfl)
                                        have t1311 := J1307.up t1281
                                        have t1312 := J1307.up t1282
                                        have t1313 := J1307.up t1283
                                        have t1314 := J1307.up t1284
                                        have K1315 : ∀ (a o : Nat) (w : Value), T0 a = some (3, 3, o) → tm_at M0 a 0 2 w → tm_at M1304 a 0 2 w := fun a o w h q => J1307.keepL (I1278.up h) (by decide) (K1285 a o w h q)
                                        have K1316 : ∀ (a : Nat) (w : Value), T0 a = some (0, 6, 0) → tm_at M0 a 6 8 w → tm_at M1304 a 6 8 w := fun a w h q => J1307.keep (I1278.up h) (by decide) (K1286 a w h q)
                                        have K1317 : ∀ (a : Nat) (w : Value), T0 a = some (0, 11, 0) → a ≠ a15 → tm_at M0 a 11 5 w → tm_at M1304 a 11 5 w := fun a w h hx q => J1307.keep (I1278.up h) (by decide) (K1287 a w h hx q)
                                        have q1318 := J1307.keep t1281 (by decide) q1288
                                        have t1319 := J1307.up t1289
                                        have q1320 := J1307.keep t1281 (by decide) q1290
                                        have t1321 := J1307.up t1291
                                        have q1322 := J1307.keepL t1291 (by decide) q1292
                                        have q1323 := J1307.keep t1281 (by decide) q1293
                                        have q1324 := J1307.keep t1284 (by decide) q1294
                                        have q1325 := J1307.keep t1284 (by decide) q1295
                                        have q1326 := J1307.keep t1284 (by decide) q1296
                                        have q1327 := J1307.keepL t1289 (by decide) q1297
                                        have q1328 := J1307.keep t1282 (by decide) q1298
                                        have q1329 := J1307.keep t1284 (by decide) q1299
                                        have q1330 := J1307.keep t1284 (by decide) q1300
                                        have q1331 := J1307.keep t1284 (by decide) q1301
                                        have q1332 := J1307.keep t1284 (by decide) q1302
                                        refine mv_lstore (lv' := [(5, .long v1310), (3, .long v1280), (0, .ref o0), (1, .ref a81), (2, .ref a945)]) d_TrustDesk_join_16 (by decide) rfl ?_
                                        refine mv_lload_n d_TrustDesk_join_18 rfl rfl ?_
                                        refine mv_lconst (v := 0) d_TrustDesk_join_19 (by decide) ?_
                                        refine mv_lneZ (tgt := 36) (a := v1280.toInt) (b := 0) d_TrustDesk_join_20 d_TrustDesk_join_21 (by decide) rfl (by decide) (fun b1333 => ?_) (fun b1333 => ?_)
                                        · refine mv_aload_n d_TrustDesk_join_36 rfl rfl ?_
                                          refine mv_lload d_TrustDesk_join_37 rfl ?_
                                          refine mv_aload_n d_TrustDesk_join_39 rfl rfl ?_
                                          refine mv_lload_n d_TrustDesk_join_40 rfl rfl ?_
                                          obtain ⟨_, b1340, -⟩ := I1308.1 _ _ t1313
                                          refine mv_callV (kc' := 146) (ks' := 11534) (As := [.long v1310, .ref a81, .long v1280]) (st9 := [.long v1280, .ref a81, .long v1310, .ref a945]) d_TrustDesk_join_41 lV_TrustDesk_416 b1340 rfl (tc_Fund_mixParts (d := (d + 7)) (x9 := x9) (o0 := a945) (x1 := v1310) (o2 := a81) (x3 := v1280) t1313 t1312 I1308.start) rfl (Nat.le_of_ble_eq_true rfl) (Nat.le_of_ble_eq_true rfl) (Nat.le_of_ble_eq_true rfl) (hst := rfl) (fun b1334r M1335 n1336 b1334 => ?_)
                                          obtain ⟨T1337, J1338, rfl⟩ := b1334
                                          have I1339 := I1308.call J1338 (tm_sub (by decide)) (Or.inl rfl)
                                          have t1341 := J1338.up t1311
                                          have t1342 := J1338.up t1312
                                          have t1343 := J1338.up t1313
                                          have t1344 := J1338.up t1314
                                          have K1345 : ∀ (a o : Nat) (w : Value), T0 a = some (3, 3, o) → tm_at M0 a 0 2 w → tm_at M1335 a 0 2 w := fun a o w h q => J1338.keepL (I1308.up h) (by decide) (K1315 a o w h q)
                                          have K1346 : ∀ (a : Nat) (w : Value), T0 a = some (0, 6, 0) → tm_at M0 a 6 8 w → tm_at M1335 a 6 8 w := fun a w h q => J1338.keep (I1308.up h) (by decide) (K1316 a w h q)
                                          have K1347 : ∀ (a : Nat) (w : Value), T0 a = some (0, 11, 0) → a ≠ a15 → tm_at M0 a 11 5 w → tm_at M1335 a 11 5 w := fun a w h hx q => J1338.keep (I1308.up h) (by decide) (K1317 a w h hx q)
                                          have q1348 := J1338.keep t1311 (by decide) q1318
                                          have t1349 := J1338.up t1319
                                          have q1350 := J1338.keep t1311 (by decide) q1320
                                          have t1351 := J1338.up t1321
                                          have q1352 := J1338.keepL t1321 (by decide) q1322
                                          have q1353 := J1338.keep t1311 (by decide) q1323
                                          have q1354 := J1338.keep t1314 (by decide) q1324
                                          have q1355 := J1338.keep t1314 (by decide) q1325
                                          have q1356 := J1338.keep t1314 (by decide) q1326
                                          have q1357 := J1338.keepL t1319 (by decide) q1327
                                          have q1358 := J1338.keep t1312 (by decide) q1328
                                          have q1359 := J1338.keep t1314 (by decide) q1329
                                          have q1360 := J1338.keep t1314 (by decide) q1330
                                          have q1361 := J1338.keep t1314 (by decide) q1331
                                          have q1362 := J1338.keep t1314 (by decide) q1332
                                          refine mv_aload_n d_TrustDesk_join_44 rfl rfl ?_
                                          refine mv_aload_n d_TrustDesk_join_45 rfl rfl ?_
                                          obtain ⟨_, b1369, -⟩ := I1339.1 _ _ t1343
                                          obtain ⟨e1370, q1371, t1372⟩ := tm_atO I0 u944t (k := 11) rfl
                                          obtain ⟨m1373, s1374, n1375, N1376, f1377, l1378⟩ := I0.1 _ _ t1372
                                          have z1379 : tm_at M0 e1370 0 2 (.int s1374) := ⟨_, l1378.1, rfl⟩
                                          have j1380 : tm_at M0 a945 6 8 (.int (-1)) := by rw [← show v967 = -1 from Int32.toInt_inj.mp (by rw [show (-1 : Int32).toInt = -1 from by decide]; omega)]; exact q966
                                          obtain ⟨e1381, q1382, t1383⟩ := tm_atO I0 u80t (k := 11) rfl
                                          obtain ⟨m1384, s1385, n1386, N1387, f1388, l1389⟩ := I0.1 _ _ t1383
                                          have z1390 : tm_at M0 e1381 0 2 (.int s1385) := ⟨_, l1389.1, rfl⟩
                                          have j1391 : tm_at M0 a81 6 8 (.int (-1)) := by rw [← show v88 = -1 from Int32.toInt_inj.mp (by rw [show (-1 : Int32).toInt = -1 from by decide]; omega)]; exact q87
                                          have h1392 : (v36).toNatClampNeg ≠ (v900).toNatClampNeg := fun h => absurd (tm_ge.fn g82 (h ▸ g946)) (by omega)
                                          have h1393 : s1374.toInt + s1385.toInt ≤ 72 := by have := hD _ _ _ _ _ _ _ _ h1392 g82 g946 j1391 j1380 q1382 q1371 z1390 z1379; omega
                                          refine mv_callV (kc' := 0) (ks' := 0) (As := [.ref a81]) (st9 := [.ref a81, .ref a945]) d_TrustDesk_join_46 lV_TrustDesk_420 b1369 rfl (tc_Fund_takeOver_x (d := d) (x9 := x9) (o0 := a945) (o1 := a81) t1343 t1342 (by omega) (I1339.up t1372) (I1339.up t1383) (I1339.keep u944t (by decide) q1371) (I1339.keep u80t (by decide) q1382) (K1345 _ _ _ t1372 z1379) (K1345 _ _ _ t1383 z1390) h1393 I1339.start) rfl (Nat.le_of_ble_eq_true rfl) (Nat.le_of_ble_eq_true rfl) (Nat.le_of_ble_eq_true rfl) (hst := rfl) (fun b1363r M1364 n1365 b1363 => ?_)
                                          obtain ⟨T1366, J1367, rfl, ⟨s1397, z1394, h1395⟩, K1396⟩ := b1363
                                          have I1368 := I1339.call J1367 (tm_sub (by decide)) (Or.inl rfl)
                                          have t1398 := J1367.up t1341
                                          have t1399 := J1367.up t1342
                                          have t1400 := J1367.up t1343
                                          have t1401 := J1367.up t1344
                                          have K1402 : ∀ (a o : Nat) (w : Value), T0 a = some (3, 3, o) → o ≠ a945 → tm_at M0 a 0 2 w → tm_at M1364 a 0 2 w := fun a o w h hx q => K1396 a o w (I1339.up h) hx (K1345 a o w h q)
                                          have K1403 : ∀ (a : Nat) (w : Value), T0 a = some (0, 6, 0) → tm_at M0 a 6 8 w → tm_at M1364 a 6 8 w := fun a w h q => J1367.keep (I1339.up h) (by decide) (K1346 a w h q)
                                          have K1404 : ∀ (a : Nat) (w : Value), T0 a = some (0, 11, 0) → a ≠ a15 → tm_at M0 a 11 5 w → tm_at M1364 a 11 5 w := fun a w h hx q => J1367.keep (I1339.up h) (by decide) (K1347 a w h hx q)
                                          have q1405 := J1367.keep t1341 (by decide) q1348
                                          have t1406 := J1367.up t1349
                                          have q1407 := J1367.keep t1341 (by decide) q1350
                                          have t1408 := J1367.up t1351
                                          have q1409 := J1367.keepL t1351 (by decide) q1352
                                          have q1410 := J1367.keep t1341 (by decide) q1353
                                          have q1411 := J1367.keep t1344 (by decide) q1354
                                          have q1412 := J1367.keep t1344 (by decide) q1355
                                          have q1413 := J1367.keep t1344 (by decide) q1356
                                          have q1414 := J1367.keepL t1349 (by decide) q1357
                                          have q1415 := J1367.keep t1342 (by decide) q1358
                                          have q1416 := J1367.keep t1344 (by decide) q1359
                                          have q1417 := J1367.keep t1344 (by decide) q1360
                                          have q1418 := J1367.keep t1344 (by decide) q1361
                                          have q1419 := J1367.keep t1344 (by decide) q1362
                                          refine mv_aload_n d_TrustDesk_join_49 rfl rfl ?_
                                          refine mv_aload_n d_TrustDesk_join_50 rfl rfl ?_
                                          obtain ⟨v1421, q1420⟩ := tm_atI I1368 t1400 (k := 0) rfl
                                          refine tr_getK q1420 d_TrustDesk_join_51 f_TrustDesk_132_6 ?_
                                          obtain ⟨_, b1428, -⟩ := I1368.1 _ _ t1399
                                          obtain ⟨n1429, q1430, h1431⟩ := hN _ _ g946
                                          have h1432 : 0 ≤ v1421.toInt := by rw [show v1421 = n1429 from tm_at.fnI q1420 (I1368.keep u944t (by decide) q1430)]; exact h1431
                                          refine mv_callV (kc' := 0) (ks' := 0) (As := [.int v1421]) (st9 := [.int v1421, .ref a81]) d_TrustDesk_join_54 lV_TrustDesk_423 b1428 rfl (tc_Fund_giveUp_x (d := (d + 4)) (x9 := x9) (o0 := a81) (x1 := v1421) t1399 I1368.start) rfl (Nat.le_of_ble_eq_true rfl) (Nat.le_of_ble_eq_true rfl) (Nat.le_of_ble_eq_true rfl) (hst := rfl) (fun b1422r M1423 n1424 b1422 => ?_)
                                          obtain ⟨T1425, J1426, rfl, j1433, K1434⟩ := b1422
                                          have I1427 := I1368.call J1426 (tm_sub (by decide)) (Or.inl rfl)
                                          have t1435 := J1426.up t1398
                                          have t1436 := J1426.up t1399
                                          have t1437 := J1426.up t1400
                                          have t1438 := J1426.up t1401
                                          have K1439 : ∀ (a o : Nat) (w : Value), T0 a = some (3, 3, o) → o ≠ a945 → tm_at M0 a 0 2 w → tm_at M1423 a 0 2 w := fun a o w h hx q => J1426.keepL (I1368.up h) (by decide) (K1402 a o w h hx q)
                                          have K1440 : ∀ (a : Nat) (w : Value), T0 a = some (0, 6, 0) → a ≠ a81 → tm_at M0 a 6 8 w → tm_at M1423 a 6 8 w := fun a w h hx q => K1434 a w (I1368.up h) hx (K1403 a w h q)
                                          have K1441 : ∀ (a : Nat) (w : Value), T0 a = some (0, 11, 0) → a ≠ a15 → tm_at M0 a 11 5 w → tm_at M1423 a 11 5 w := fun a w h hx q => J1426.keep (I1368.up h) (by decide) (K1404 a w h hx q)
                                          have q1442 := J1426.keep t1398 (by decide) q1405
                                          have t1443 := J1426.up t1406
                                          have q1444 := J1426.keep t1398 (by decide) q1407
                                          have t1445 := J1426.up t1408
                                          have q1446 := J1426.keepL t1408 (by decide) q1409
                                          have q1447 := J1426.keep t1398 (by decide) q1410
                                          have q1448 := J1426.keep t1401 (by decide) q1411
                                          have q1449 := J1426.keep t1401 (by decide) q1412
                                          have q1450 := J1426.keep t1401 (by decide) q1413
                                          have q1451 := J1426.keepL t1406 (by decide) q1414
                                          have q1452 := J1426.keep t1401 (by decide) q1416
                                          have q1453 := J1426.keep t1401 (by decide) q1417
                                          have q1454 := J1426.keep t1401 (by decide) q1418
                                          have q1455 := J1426.keep t1401 (by decide) q1419
                                          have q1456 := J1426.keep t1400 (by decide) q1420
                                          have z1457 := J1426.keepL (I1368.up t1372) (by decide) z1394
                                          refine mv_vret d_TrustDesk_join_57 rfl ?_
                                          refine mv_goto (tgt := 100) d_TrustDesk_carryOut_73 (by decide) ?_
                                          refine mv_vret d_TrustDesk_carryOut_100 rfl ?_
                                          refine mv_iload_n d_TrustDesk_settle_63 rfl rfl ?_
                                          exact mv_iret d_TrustDesk_settle_64 rfl (by first | rfl | decide) ⟨_, I1427, _, rfl, (Or.inr ⟨(v36).toNatClampNeg, (v900).toNatClampNeg, a81, a945, e1381, e1370, s1385, s1374, s1397, v1421, h1392, g82, g946, j1391, j1380, q1382, q1371, z1390, z1379, h1432, h1395, z1457, j1433, K1439, K1440⟩), Or.inr ⟨by omega, _, _, g16, q1455, by decide, K1441⟩⟩
                                        · refine mv_lload d_TrustDesk_join_24 rfl ?_
                                          refine mv_lconst (v := 0) d_TrustDesk_join_26 (by decide) ?_
                                          refine mv_lneZ (tgt := 36) (a := v1310.toInt) (b := 0) d_TrustDesk_join_27 d_TrustDesk_join_28 (by decide) rfl (by decide) (fun b1458 => ?_) (fun b1458 => ?_)
                                          · refine mv_aload_n d_TrustDesk_join_36 rfl rfl ?_
                                            refine mv_lload d_TrustDesk_join_37 rfl ?_
                                            refine mv_aload_n d_TrustDesk_join_39 rfl rfl ?_
                                            refine mv_lload_n d_TrustDesk_join_40 rfl rfl ?_
                                            obtain ⟨_, b1465, -⟩ := I1308.1 _ _ t1313
                                            refine mv_callV (kc' := 146) (ks' := 11534) (As := [.long v1310, .ref a81, .long v1280]) (st9 := [.long v1280, .ref a81, .long v1310, .ref a945]) d_TrustDesk_join_41 lV_TrustDesk_416 b1465 rfl (tc_Fund_mixParts (d := (d + 7)) (x9 := x9) (o0 := a945) (x1 := v1310) (o2 := a81) (x3 := v1280) t1313 t1312 I1308.start) rfl (Nat.le_of_ble_eq_true rfl) (Nat.le_of_ble_eq_true rfl) (Nat.le_of_ble_eq_true rfl) (hst := rfl) (fun b1459r M1460 n1461 b1459 => ?_)
                                            obtain ⟨T1462, J1463, rfl⟩ := b1459
                                            have I1464 := I1308.call J1463 (tm_sub (by decide)) (Or.inl rfl)
                                            have t1466 := J1463.up t1311
                                            have t1467 := J1463.up t1312
                                            have t1468 := J1463.up t1313
                                            have t1469 := J1463.up t1314
                                            have K1470 : ∀ (a o : Nat) (w : Value), T0 a = some (3, 3, o) → tm_at M0 a 0 2 w → tm_at M1460 a 0 2 w := fun a o w h q => J1463.keepL (I1308.up h) (by decide) (K1315 a o w h q)
                                            have K1471 : ∀ (a : Nat) (w : Value), T0 a = some (0, 6, 0) → tm_at M0 a 6 8 w → tm_at M1460 a 6 8 w := fun a w h q => J1463.keep (I1308.up h) (by decide) (K1316 a w h q)
                                            have K1472 : ∀ (a : Nat) (w : Value), T0 a = some (0, 11, 0) → a ≠ a15 → tm_at M0 a 11 5 w → tm_at M1460 a 11 5 w := fun a w h hx q => J1463.keep (I1308.up h) (by decide) (K1317 a w h hx q)
                                            have q1473 := J1463.keep t1311 (by decide) q1318
                                            have t1474 := J1463.up t1319
                                            have q1475 := J1463.keep t1311 (by decide) q1320
                                            have t1476 := J1463.up t1321
                                            have q1477 := J1463.keepL t1321 (by decide) q1322
                                            have q1478 := J1463.keep t1311 (by decide) q1323
                                            have q1479 := J1463.keep t1314 (by decide) q1324
                                            have q1480 := J1463.keep t1314 (by decide) q1325
                                            have q1481 := J1463.keep t1314 (by decide) q1326
                                            have q1482 := J1463.keepL t1319 (by decide) q1327
                                            have q1483 := J1463.keep t1312 (by decide) q1328
                                            have q1484 := J1463.keep t1314 (by decide) q1329
                                            have q1485 := J1463.keep t1314 (by decide) q1330
                                            have q1486 := J1463.keep t1314 (by decide) q1331
                                            have q1487 := J1463.keep t1314 (by decide) q1332
                                            refine mv_aload_n d_TrustDesk_join_44 rfl rfl ?_
                                            refine mv_aload_n d_TrustDesk_join_45 rfl rfl ?_
                                            obtain ⟨_, b1494, -⟩ := I1464.1 _ _ t1468
                                            obtain ⟨e1495, q1496, t1497⟩ := tm_atO I0 u944t (k := 11) rfl
                                            obtain ⟨m1498, s1499, n1500, N1501, f1502, l1503⟩ := I0.1 _ _ t1497
                                            have z1504 : tm_at M0 e1495 0 2 (.int s1499) := ⟨_, l1503.1, rfl⟩
                                            have j1505 : tm_at M0 a945 6 8 (.int (-1)) := by rw [← show v967 = -1 from Int32.toInt_inj.mp (by rw [show (-1 : Int32).toInt = -1 from by decide]; omega)]; exact q966
                                            obtain ⟨e1506, q1507, t1508⟩ := tm_atO I0 u80t (k := 11) rfl
                                            obtain ⟨m1509, s1510, n1511, N1512, f1513, l1514⟩ := I0.1 _ _ t1508
                                            have z1515 : tm_at M0 e1506 0 2 (.int s1510) := ⟨_, l1514.1, rfl⟩
                                            have j1516 : tm_at M0 a81 6 8 (.int (-1)) := by rw [← show v88 = -1 from Int32.toInt_inj.mp (by rw [show (-1 : Int32).toInt = -1 from by decide]; omega)]; exact q87
                                            have h1517 : (v36).toNatClampNeg ≠ (v900).toNatClampNeg := fun h => absurd (tm_ge.fn g82 (h ▸ g946)) (by omega)
                                            have h1518 : s1499.toInt + s1510.toInt ≤ 72 := by have := hD _ _ _ _ _ _ _ _ h1517 g82 g946 j1516 j1505 q1507 q1496 z1515 z1504; omega
                                            refine mv_callV (kc' := 0) (ks' := 0) (As := [.ref a81]) (st9 := [.ref a81, .ref a945]) d_TrustDesk_join_46 lV_TrustDesk_420 b1494 rfl (tc_Fund_takeOver_x (d := d) (x9 := x9) (o0 := a945) (o1 := a81) t1468 t1467 (by omega) (I1464.up t1497) (I1464.up t1508) (I1464.keep u944t (by decide) q1496) (I1464.keep u80t (by decide) q1507) (K1470 _ _ _ t1497 z1504) (K1470 _ _ _ t1508 z1515) h1518 I1464.start) rfl (Nat.le_of_ble_eq_true rfl) (Nat.le_of_ble_eq_true rfl) (Nat.le_of_ble_eq_true rfl) (hst := rfl) (fun b1488r M1489 n1490 b1488 => ?_)
                                            obtain ⟨T1491, J1492, rfl, ⟨s1522, z1519, h1520⟩, K1521⟩ := b1488
                                            have I1493 := I1464.call J1492 (tm_sub (by decide)) (Or.inl rfl)
                                            have t1523 := J1492.up t1466
                                            have t1524 := J1492.up t1467
                                            have t1525 := J1492.up t1468
                                            have t1526 := J1492.up t1469
                                            have K1527 : ∀ (a o : Nat) (w : Value), T0 a = some (3, 3, o) → o ≠ a945 → tm_at M0 a 0 2 w → tm_at M1489 a 0 2 w := fun a o w h hx q => K1521 a o w (I1464.up h) hx (K1470 a o w h q)
                                            have K1528 : ∀ (a : Nat) (w : Value), T0 a = some (0, 6, 0) → tm_at M0 a 6 8 w → tm_at M1489 a 6 8 w := fun a w h q => J1492.keep (I1464.up h) (by decide) (K1471 a w h q)
                                            have K1529 : ∀ (a : Nat) (w : Value), T0 a = some (0, 11, 0) → a ≠ a15 → tm_at M0 a 11 5 w → tm_at M1489 a 11 5 w := fun a w h hx q => J1492.keep (I1464.up h) (by decide) (K1472 a w h hx q)
                                            have q1530 := J1492.keep t1466 (by decide) q1473
                                            have t1531 := J1492.up t1474
                                            have q1532 := J1492.keep t1466 (by decide) q1475
                                            have t1533 := J1492.up t1476
                                            have q1534 := J1492.keepL t1476 (by decide) q1477
                                            have q1535 := J1492.keep t1466 (by decide) q1478
                                            have q1536 := J1492.keep t1469 (by decide) q1479
                                            have q1537 := J1492.keep t1469 (by decide) q1480
                                            have q1538 := J1492.keep t1469 (by decide) q1481
                                            have q1539 := J1492.keepL t1474 (by decide) q1482
                                            have q1540 := J1492.keep t1467 (by decide) q1483
                                            have q1541 := J1492.keep t1469 (by decide) q1484
                                            have q1542 := J1492.keep t1469 (by decide) q1485
                                            have q1543 := J1492.keep t1469 (by decide) q1486
                                            have q1544 := J1492.keep t1469 (by decide) q1487
                                            refine mv_aload_n d_TrustDesk_join_49 rfl rfl ?_
                                            refine mv_aload_n d_TrustDesk_join_50 rfl rfl ?_
                                            obtain ⟨v1546, q1545⟩ := tm_atI I1493 t1525 (k := 0) rfl
                                            refine tr_getK q1545 d_TrustDesk_join_51 f_TrustDesk_132_6 ?_
                                            obtain ⟨_, b1553, -⟩ := I1493.1 _ _ t1524
                                            obtain ⟨n1554, q1555, h1556⟩ := hN _ _ g946
                                            have h1557 : 0 ≤ v1546.toInt := by rw [show v1546 = n1554 from tm_at.fnI q1545 (I1493.keep u944t (by decide) q1555)]; exact h1556
                                            refine mv_callV (kc' := 0) (ks' := 0) (As := [.int v1546]) (st9 := [.int v1546, .ref a81]) d_TrustDesk_join_54 lV_TrustDesk_423 b1553 rfl (tc_Fund_giveUp_x (d := (d + 4)) (x9 := x9) (o0 := a81) (x1 := v1546) t1524 I1493.start) rfl (Nat.le_of_ble_eq_true rfl) (Nat.le_of_ble_eq_true rfl) (Nat.le_of_ble_eq_true rfl) (hst := rfl) (fun b1547r M1548 n1549 b1547 => ?_)
                                            obtain ⟨T1550, J1551, rfl, j1558, K1559⟩ := b1547
                                            have I1552 := I1493.call J1551 (tm_sub (by decide)) (Or.inl rfl)
                                            have t1560 := J1551.up t1523
                                            have t1561 := J1551.up t1524
                                            have t1562 := J1551.up t1525
                                            have t1563 := J1551.up t1526
                                            have K1564 : ∀ (a o : Nat) (w : Value), T0 a = some (3, 3, o) → o ≠ a945 → tm_at M0 a 0 2 w → tm_at M1548 a 0 2 w := fun a o w h hx q => J1551.keepL (I1493.up h) (by decide) (K1527 a o w h hx q)
                                            have K1565 : ∀ (a : Nat) (w : Value), T0 a = some (0, 6, 0) → a ≠ a81 → tm_at M0 a 6 8 w → tm_at M1548 a 6 8 w := fun a w h hx q => K1559 a w (I1493.up h) hx (K1528 a w h q)
                                            have K1566 : ∀ (a : Nat) (w : Value), T0 a = some (0, 11, 0) → a ≠ a15 → tm_at M0 a 11 5 w → tm_at M1548 a 11 5 w := fun a w h hx q => J1551.keep (I1493.up h) (by decide) (K1529 a w h hx q)
                                            have q1567 := J1551.keep t1523 (by decide) q1530
                                            have t1568 := J1551.up t1531
                                            have q1569 := J1551.keep t1523 (by decide) q1532
                                            have t1570 := J1551.up t1533
                                            have q1571 := J1551.keepL t1533 (by decide) q1534
                                            have q1572 := J1551.keep t1523 (by decide) q1535
                                            have q1573 := J1551.keep t1526 (by decide) q1536
                                            have q1574 := J1551.keep t1526 (by decide) q1537
                                            have q1575 := J1551.keep t1526 (by decide) q1538
                                            have q1576 := J1551.keepL t1531 (by decide) q1539
                                            have q1577 := J1551.keep t1526 (by decide) q1541
                                            have q1578 := J1551.keep t1526 (by decide) q1542
                                            have q1579 := J1551.keep t1526 (by decide) q1543
                                            have q1580 := J1551.keep t1526 (by decide) q1544
                                            have q1581 := J1551.keep t1525 (by decide) q1545
                                            have z1582 := J1551.keepL (I1493.up t1497) (by decide) z1519
                                            refine mv_vret d_TrustDesk_join_57 rfl ?_
                                            refine mv_goto (tgt := 100) d_TrustDesk_carryOut_73 (by decide) ?_
                                            refine mv_vret d_TrustDesk_carryOut_100 rfl ?_
                                            refine mv_iload_n d_TrustDesk_settle_63 rfl rfl ?_
                                            exact mv_iret d_TrustDesk_settle_64 rfl (by first | rfl | decide) ⟨_, I1552, _, rfl, (Or.inr ⟨(v36).toNatClampNeg, (v900).toNatClampNeg, a81, a945, e1506, e1495, s1510, s1499, s1522, v1546, h1517, g82, g946, j1516, j1505, q1507, q1496, z1515, z1504, h1557, h1520, z1582, j1558, K1564, K1565⟩), Or.inr ⟨by omega, _, _, g16, q1580, by decide, K1566⟩⟩
                                          · refine mv_lconst (v := 1) d_TrustDesk_join_31 (by decide) ?_
                                            refine mv_lstore_n (lv' := [(3, .long 1), (5, .long v1310), (0, .ref o0), (1, .ref a81), (2, .ref a945)]) d_TrustDesk_join_32 rfl (by decide) rfl ?_
                                            refine mv_lconst (v := 1) d_TrustDesk_join_33 (by decide) ?_
                                            refine mv_lstore (lv' := [(5, .long 1), (3, .long 1), (0, .ref o0), (1, .ref a81), (2, .ref a945)]) d_TrustDesk_join_34 (by decide) rfl ?_
                                            refine mv_aload_n d_TrustDesk_join_36 rfl rfl ?_
                                            refine mv_lload d_TrustDesk_join_37 rfl ?_
                                            refine mv_aload_n d_TrustDesk_join_39 rfl rfl ?_
                                            refine mv_lload_n d_TrustDesk_join_40 rfl rfl ?_
                                            obtain ⟨_, b1589, -⟩ := I1308.1 _ _ t1313
                                            refine mv_callV (kc' := 146) (ks' := 11534) (As := [.long 1, .ref a81, .long 1]) (st9 := [.long 1, .ref a81, .long 1, .ref a945]) d_TrustDesk_join_41 lV_TrustDesk_416 b1589 rfl (tc_Fund_mixParts (d := (d + 7)) (x9 := x9) (o0 := a945) (x1 := 1) (o2 := a81) (x3 := 1) t1313 t1312 I1308.start) rfl (Nat.le_of_ble_eq_true rfl) (Nat.le_of_ble_eq_true rfl) (Nat.le_of_ble_eq_true rfl) (hst := rfl) (fun b1583r M1584 n1585 b1583 => ?_)
                                            obtain ⟨T1586, J1587, rfl⟩ := b1583
                                            have I1588 := I1308.call J1587 (tm_sub (by decide)) (Or.inl rfl)
                                            have t1590 := J1587.up t1311
                                            have t1591 := J1587.up t1312
                                            have t1592 := J1587.up t1313
                                            have t1593 := J1587.up t1314
                                            have K1594 : ∀ (a o : Nat) (w : Value), T0 a = some (3, 3, o) → tm_at M0 a 0 2 w → tm_at M1584 a 0 2 w := fun a o w h q => J1587.keepL (I1308.up h) (by decide) (K1315 a o w h q)
                                            have K1595 : ∀ (a : Nat) (w : Value), T0 a = some (0, 6, 0) → tm_at M0 a 6 8 w → tm_at M1584 a 6 8 w := fun a w h q => J1587.keep (I1308.up h) (by decide) (K1316 a w h q)
                                            have K1596 : ∀ (a : Nat) (w : Value), T0 a = some (0, 11, 0) → a ≠ a15 → tm_at M0 a 11 5 w → tm_at M1584 a 11 5 w := fun a w h hx q => J1587.keep (I1308.up h) (by decide) (K1317 a w h hx q)
                                            have q1597 := J1587.keep t1311 (by decide) q1318
                                            have t1598 := J1587.up t1319
                                            have q1599 := J1587.keep t1311 (by decide) q1320
                                            have t1600 := J1587.up t1321
                                            have q1601 := J1587.keepL t1321 (by decide) q1322
                                            have q1602 := J1587.keep t1311 (by decide) q1323
                                            have q1603 := J1587.keep t1314 (by decide) q1324
                                            have q1604 := J1587.keep t1314 (by decide) q1325
                                            have q1605 := J1587.keep t1314 (by decide) q1326
                                            have q1606 := J1587.keepL t1319 (by decide) q1327
                                            have q1607 := J1587.keep t1312 (by decide) q1328
                                            have q1608 := J1587.keep t1314 (by decide) q1329
                                            have q1609 := J1587.keep t1314 (by decide) q1330
                                            have q1610 := J1587.keep t1314 (by decide) q1331
                                            have q1611 := J1587.keep t1314 (by decide) q1332
                                            refine mv_aload_n d_TrustDesk_join_44 rfl rfl ?_
                                            refine mv_aload_n d_TrustDesk_join_45 rfl rfl ?_
                                            obtain ⟨_, b1618, -⟩ := I1588.1 _ _ t1592
                                            obtain ⟨e1619, q1620, t1621⟩ := tm_atO I0 u944t (k := 11) rfl
                                            obtain ⟨m1622, s1623, n1624, N1625, f1626, l1627⟩ := I0.1 _ _ t1621
                                            have z1628 : tm_at M0 e1619 0 2 (.int s1623) := ⟨_, l1627.1, rfl⟩
                                            have j1629 : tm_at M0 a945 6 8 (.int (-1)) := by rw [← show v967 = -1 from Int32.toInt_inj.mp (by rw [show (-1 : Int32).toInt = -1 from by decide]; omega)]; exact q966
                                            obtain ⟨e1630, q1631, t1632⟩ := tm_atO I0 u80t (k := 11) rfl
                                            obtain ⟨m1633, s1634, n1635, N1636, f1637, l1638⟩ := I0.1 _ _ t1632
                                            have z1639 : tm_at M0 e1630 0 2 (.int s1634) := ⟨_, l1638.1, rfl⟩
                                            have j1640 : tm_at M0 a81 6 8 (.int (-1)) := by rw [← show v88 = -1 from Int32.toInt_inj.mp (by rw [show (-1 : Int32).toInt = -1 from by decide]; omega)]; exact q87
                                            have h1641 : (v36).toNatClampNeg ≠ (v900).toNatClampNeg := fun h => absurd (tm_ge.fn g82 (h ▸ g946)) (by omega)
                                            have h1642 : s1623.toInt + s1634.toInt ≤ 72 := by have := hD _ _ _ _ _ _ _ _ h1641 g82 g946 j1640 j1629 q1631 q1620 z1639 z1628; omega
                                            refine mv_callV (kc' := 0) (ks' := 0) (As := [.ref a81]) (st9 := [.ref a81, .ref a945]) d_TrustDesk_join_46 lV_TrustDesk_420 b1618 rfl (tc_Fund_takeOver_x (d := d) (x9 := x9) (o0 := a945) (o1 := a81) t1592 t1591 (by omega) (I1588.up t1621) (I1588.up t1632) (I1588.keep u944t (by decide) q1620) (I1588.keep u80t (by decide) q1631) (K1594 _ _ _ t1621 z1628) (K1594 _ _ _ t1632 z1639) h1642 I1588.start) rfl (Nat.le_of_ble_eq_true rfl) (Nat.le_of_ble_eq_true rfl) (Nat.le_of_ble_eq_true rfl) (hst := rfl) (fun b1612r M1613 n1614 b1612 => ?_)
                                            obtain ⟨T1615, J1616, rfl, ⟨s1646, z1643, h1644⟩, K1645⟩ := b1612
                                            have I1617 := I1588.call J1616 (tm_sub (by decide)) (Or.inl rfl)
                                            have t1647 := J1616.up t1590
                                            have t1648 := J1616.up t1591
                                            have t1649 := J1616.up t1592
                                            have t1650 := J1616.up t1593
                                            have K1651 : ∀ (a o : Nat) (w : Value), T0 a = some (3, 3, o) → o ≠ a945 → tm_at M0 a 0 2 w → tm_at M1613 a 0 2 w := fun a o w h hx q => K1645 a o w (I1588.up h) hx (K1594 a o w h q)
                                            have K1652 : ∀ (a : Nat) (w : Value), T0 a = some (0, 6, 0) → tm_at M0 a 6 8 w → tm_at M1613 a 6 8 w := fun a w h q => J1616.keep (I1588.up h) (by decide) (K1595 a w h q)
                                            have K1653 : ∀ (a : Nat) (w : Value), T0 a = some (0, 11, 0) → a ≠ a15 → tm_at M0 a 11 5 w → tm_at M1613 a 11 5 w := fun a w h hx q => J1616.keep (I1588.up h) (by decide) (K1596 a w h hx q)
                                            have q1654 := J1616.keep t1590 (by decide) q1597
                                            have t1655 := J1616.up t1598
                                            have q1656 := J1616.keep t1590 (by decide) q1599
                                            have t1657 := J1616.up t1600
                                            have q1658 := J1616.keepL t1600 (by decide) q1601
                                            have q1659 := J1616.keep t1590 (by decide) q1602
                                            have q1660 := J1616.keep t1593 (by decide) q1603
                                            have q1661 := J1616.keep t1593 (by decide) q1604
                                            have q1662 := J1616.keep t1593 (by decide) q1605
                                            have q1663 := J1616.keepL t1598 (by decide) q1606
                                            have q1664 := J1616.keep t1591 (by decide) q1607
                                            have q1665 := J1616.keep t1593 (by decide) q1608
                                            have q1666 := J1616.keep t1593 (by decide) q1609
                                            have q1667 := J1616.keep t1593 (by decide) q1610
                                            have q1668 := J1616.keep t1593 (by decide) q1611
                                            refine mv_aload_n d_TrustDesk_join_49 rfl rfl ?_
                                            refine mv_aload_n d_TrustDesk_join_50 rfl rfl ?_
                                            obtain ⟨v1670, q1669⟩ := tm_atI I1617 t1649 (k := 0) rfl
                                            refine tr_getK q1669 d_TrustDesk_join_51 f_TrustDesk_132_6 ?_
                                            obtain ⟨_, b1677, -⟩ := I1617.1 _ _ t1648
                                            obtain ⟨n1678, q1679, h1680⟩ := hN _ _ g946
                                            have h1681 : 0 ≤ v1670.toInt := by rw [show v1670 = n1678 from tm_at.fnI q1669 (I1617.keep u944t (by decide) q1679)]; exact h1680
                                            refine mv_callV (kc' := 0) (ks' := 0) (As := [.int v1670]) (st9 := [.int v1670, .ref a81]) d_TrustDesk_join_54 lV_TrustDesk_423 b1677 rfl (tc_Fund_giveUp_x (d := (d + 4)) (x9 := x9) (o0 := a81) (x1 := v1670) t1648 I1617.start) rfl (Nat.le_of_ble_eq_true rfl) (Nat.le_of_ble_eq_true rfl) (Nat.le_of_ble_eq_true rfl) (hst := rfl) (fun b1671r M1672 n1673 b1671 => ?_)
                                            obtain ⟨T1674, J1675, rfl, j1682, K1683⟩ := b1671
                                            have I1676 := I1617.call J1675 (tm_sub (by decide)) (Or.inl rfl)
                                            have t1684 := J1675.up t1647
                                            have t1685 := J1675.up t1648
                                            have t1686 := J1675.up t1649
                                            have t1687 := J1675.up t1650
                                            have K1688 : ∀ (a o : Nat) (w : Value), T0 a = some (3, 3, o) → o ≠ a945 → tm_at M0 a 0 2 w → tm_at M1672 a 0 2 w := fun a o w h hx q => J1675.keepL (I1617.up h) (by decide) (K1651 a o w h hx q)
                                            have K1689 : ∀ (a : Nat) (w : Value), T0 a = some (0, 6, 0) → a ≠ a81 → tm_at M0 a 6 8 w → tm_at M1672 a 6 8 w := fun a w h hx q => K1683 a w (I1617.up h) hx (K1652 a w h q)
                                            have K1690 : ∀ (a : Nat) (w : Value), T0 a = some (0, 11, 0) → a ≠ a15 → tm_at M0 a 11 5 w → tm_at M1672 a 11 5 w := fun a w h hx q => J1675.keep (I1617.up h) (by decide) (K1653 a w h hx q)
                                            have q1691 := J1675.keep t1647 (by decide) q1654
                                            have t1692 := J1675.up t1655
                                            have q1693 := J1675.keep t1647 (by decide) q1656
                                            have t1694 := J1675.up t1657
                                            have q1695 := J1675.keepL t1657 (by decide) q1658
                                            have q1696 := J1675.keep t1647 (by decide) q1659
                                            have q1697 := J1675.keep t1650 (by decide) q1660
                                            have q1698 := J1675.keep t1650 (by decide) q1661
                                            have q1699 := J1675.keep t1650 (by decide) q1662
                                            have q1700 := J1675.keepL t1655 (by decide) q1663
                                            have q1701 := J1675.keep t1650 (by decide) q1665
                                            have q1702 := J1675.keep t1650 (by decide) q1666
                                            have q1703 := J1675.keep t1650 (by decide) q1667
                                            have q1704 := J1675.keep t1650 (by decide) q1668
                                            have q1705 := J1675.keep t1649 (by decide) q1669
                                            have z1706 := J1675.keepL (I1617.up t1621) (by decide) z1643
                                            refine mv_vret d_TrustDesk_join_57 rfl ?_
                                            refine mv_goto (tgt := 100) d_TrustDesk_carryOut_73 (by decide) ?_
                                            refine mv_vret d_TrustDesk_carryOut_100 rfl ?_
                                            refine mv_iload_n d_TrustDesk_settle_63 rfl rfl ?_
                                            exact mv_iret d_TrustDesk_settle_64 rfl (by first | rfl | decide) ⟨_, I1676, _, rfl, (Or.inr ⟨(v36).toNatClampNeg, (v900).toNatClampNeg, a81, a945, e1630, e1619, s1634, s1623, s1646, v1670, h1641, g82, g946, j1640, j1629, q1631, q1620, z1639, z1628, h1681, h1644, z1706, j1682, K1688, K1689⟩), Or.inr ⟨by omega, _, _, g16, q1704, by decide, K1690⟩⟩
                                  · refine mv_iconst (v := 5) d_TrustDesk_failureOf_85 (by decide) ?_
                                    refine mv_goto (tgt := 90) d_TrustDesk_failureOf_86 (by decide) ?_
                                    refine mv_iret d_TrustDesk_failureOf_90 rfl (by first | rfl | decide) ?_
                                    refine mv_istore_n (lv' := [(3, .int 5), (2, .ref a15), (0, .ref o0), (1, .int x1)]) d_TrustDesk_settle_35 rfl (by decide) rfl ?_
                                    refine mv_aload_n d_TrustDesk_settle_36 rfl rfl ?_
                                    refine mv_iload_n d_TrustDesk_settle_37 rfl rfl ?_
                                    refine tr_putKM tm_okF I1196 t1204 (k := 6) rfl ⟨_, rfl⟩ (Or.inl (by decide)) d_TrustDesk_settle_38 p_TrustDesk_318_11 rfl rfl (fun M1707 I1708 q1709 K1710 K1710M => ?_)
                                    have K1711 : ∀ (a o : Nat) (w : Value), T0 a = some (3, 3, o) → tm_at M0 a 0 2 w → tm_at M1707 a 0 2 w := fun a o w h q => K1710 _ 0 2 _ rfl (K1205 a o w h q)
                                    have K1712 : ∀ (a : Nat) (w : Value), T0 a = some (0, 6, 0) → tm_at M0 a 6 8 w → tm_at M1707 a 6 8 w := fun a w h q => K1710 _ 6 8 _ rfl (K1206 a w h q)
                                    have K1713 : ∀ (a : Nat) (w : Value), T0 a = some (0, 11, 0) → tm_at M0 a 11 5 w → tm_at M1707 a 11 5 w := fun a w h q => K1710 _ 11 5 _ rfl (K1207 a w h q)
                                    refine mv_aload_n d_TrustDesk_settle_41 rfl rfl ?_
                                    refine mv_iload_n d_TrustDesk_settle_42 rfl rfl ?_
                                    refine mv_if_ne_t (tgt := 50) d_TrustDesk_settle_43 (by decide) (by decide) ?_
                                    refine mv_iconst (v := 2) d_TrustDesk_settle_50 (by decide) ?_
                                    refine tr_putKM tm_okF I1708 t1204 (k := 5) rfl ⟨_, rfl⟩ (Or.inl (by decide)) d_TrustDesk_settle_51 p_TrustDesk_284_11 rfl rfl (fun M1714 I1715 q1716 K1717 K1717M => ?_)
                                    have K1718 : ∀ (a o : Nat) (w : Value), T0 a = some (3, 3, o) → tm_at M0 a 0 2 w → tm_at M1714 a 0 2 w := fun a o w h q => K1717 _ 0 2 _ rfl (K1711 a o w h q)
                                    have K1719 : ∀ (a : Nat) (w : Value), T0 a = some (0, 6, 0) → tm_at M0 a 6 8 w → tm_at M1714 a 6 8 w := fun a w h q => K1717 _ 6 8 _ rfl (K1712 a w h q)
                                    have K1720 : ∀ (a : Nat) (w : Value), T0 a = some (0, 11, 0) → a ≠ a15 → tm_at M0 a 11 5 w → tm_at M1714 a 11 5 w := fun a w h hx q => tm_at.eq (K1717M _ hx) (K1713 a w h q)
                                    refine mv_iload_n d_TrustDesk_settle_54 rfl rfl ?_
                                    refine mv_if_ne_t (tgt := 63) d_TrustDesk_settle_55 (by decide) (by decide) ?_
                                    refine mv_iload_n d_TrustDesk_settle_63 rfl rfl ?_
                                    exact mv_iret d_TrustDesk_settle_64 rfl (by first | rfl | decide) ⟨_, I1715, _, rfl, (Or.inl ⟨K1718, K1719⟩), Or.inr ⟨by omega, _, _, g16, q1716, by decide, K1720⟩⟩
                                · refine mv_iconst (v := 4) d_TrustDesk_failureOf_76 (by decide) ?_
                                  refine mv_iret d_TrustDesk_failureOf_77 rfl (by first | rfl | decide) ?_
                                  refine mv_istore_n (lv' := [(3, .int 4), (2, .ref a15), (0, .ref o0), (1, .int x1)]) d_TrustDesk_settle_35 rfl (by decide) rfl ?_
                                  refine mv_aload_n d_TrustDesk_settle_36 rfl rfl ?_
                                  refine mv_iload_n d_TrustDesk_settle_37 rfl rfl ?_
                                  refine tr_putKM tm_okF I1196 t1204 (k := 6) rfl ⟨_, rfl⟩ (Or.inl (by decide)) d_TrustDesk_settle_38 p_TrustDesk_318_11 rfl rfl (fun M1721 I1722 q1723 K1724 K1724M => ?_)
                                  have K1725 : ∀ (a o : Nat) (w : Value), T0 a = some (3, 3, o) → tm_at M0 a 0 2 w → tm_at M1721 a 0 2 w := fun a o w h q => K1724 _ 0 2 _ rfl (K1205 a o w h q)
                                  have K1726 : ∀ (a : Nat) (w : Value), T0 a = some (0, 6, 0) → tm_at M0 a 6 8 w → tm_at M1721 a 6 8 w := fun a w h q => K1724 _ 6 8 _ rfl (K1206 a w h q)
                                  have K1727 : ∀ (a : Nat) (w : Value), T0 a = some (0, 11, 0) → tm_at M0 a 11 5 w → tm_at M1721 a 11 5 w := fun a w h q => K1724 _ 11 5 _ rfl (K1207 a w h q)
                                  refine mv_aload_n d_TrustDesk_settle_41 rfl rfl ?_
                                  refine mv_iload_n d_TrustDesk_settle_42 rfl rfl ?_
                                  refine mv_if_ne_t (tgt := 50) d_TrustDesk_settle_43 (by decide) (by decide) ?_
                                  refine mv_iconst (v := 2) d_TrustDesk_settle_50 (by decide) ?_
                                  refine tr_putKM tm_okF I1722 t1204 (k := 5) rfl ⟨_, rfl⟩ (Or.inl (by decide)) d_TrustDesk_settle_51 p_TrustDesk_284_11 rfl rfl (fun M1728 I1729 q1730 K1731 K1731M => ?_)
                                  have K1732 : ∀ (a o : Nat) (w : Value), T0 a = some (3, 3, o) → tm_at M0 a 0 2 w → tm_at M1728 a 0 2 w := fun a o w h q => K1731 _ 0 2 _ rfl (K1725 a o w h q)
                                  have K1733 : ∀ (a : Nat) (w : Value), T0 a = some (0, 6, 0) → tm_at M0 a 6 8 w → tm_at M1728 a 6 8 w := fun a w h q => K1731 _ 6 8 _ rfl (K1726 a w h q)
                                  have K1734 : ∀ (a : Nat) (w : Value), T0 a = some (0, 11, 0) → a ≠ a15 → tm_at M0 a 11 5 w → tm_at M1728 a 11 5 w := fun a w h hx q => tm_at.eq (K1731M _ hx) (K1727 a w h q)
                                  refine mv_iload_n d_TrustDesk_settle_54 rfl rfl ?_
                                  refine mv_if_ne_t (tgt := 63) d_TrustDesk_settle_55 (by decide) (by decide) ?_
                                  refine mv_iload_n d_TrustDesk_settle_63 rfl rfl ?_
                                  exact mv_iret d_TrustDesk_settle_64 rfl (by first | rfl | decide) ⟨_, I1729, _, rfl, (Or.inl ⟨K1732, K1733⟩), Or.inr ⟨by omega, _, _, g16, q1730, by decide, K1734⟩⟩
                              · refine mv_iconst (v := 3) d_TrustDesk_failureOf_65 (by decide) ?_
                                refine mv_iret d_TrustDesk_failureOf_66 rfl (by first | rfl | decide) ?_
                                refine mv_istore_n (lv' := [(3, .int 3), (2, .ref a15), (0, .ref o0), (1, .int x1)]) d_TrustDesk_settle_35 rfl (by decide) rfl ?_
                                refine mv_aload_n d_TrustDesk_settle_36 rfl rfl ?_
                                refine mv_iload_n d_TrustDesk_settle_37 rfl rfl ?_
                                refine tr_putKM tm_okF I1166 t1172 (k := 6) rfl ⟨_, rfl⟩ (Or.inl (by decide)) d_TrustDesk_settle_38 p_TrustDesk_318_11 rfl rfl (fun M1735 I1736 q1737 K1738 K1738M => ?_)
                                have K1739 : ∀ (a o : Nat) (w : Value), T0 a = some (3, 3, o) → tm_at M0 a 0 2 w → tm_at M1735 a 0 2 w := fun a o w h q => K1738 _ 0 2 _ rfl (K1173 a o w h q)
                                have K1740 : ∀ (a : Nat) (w : Value), T0 a = some (0, 6, 0) → tm_at M0 a 6 8 w → tm_at M1735 a 6 8 w := fun a w h q => K1738 _ 6 8 _ rfl (K1174 a w h q)
                                have K1741 : ∀ (a : Nat) (w : Value), T0 a = some (0, 11, 0) → tm_at M0 a 11 5 w → tm_at M1735 a 11 5 w := fun a w h q => K1738 _ 11 5 _ rfl (K1175 a w h q)
                                refine mv_aload_n d_TrustDesk_settle_41 rfl rfl ?_
                                refine mv_iload_n d_TrustDesk_settle_42 rfl rfl ?_
                                refine mv_if_ne_t (tgt := 50) d_TrustDesk_settle_43 (by decide) (by decide) ?_
                                refine mv_iconst (v := 2) d_TrustDesk_settle_50 (by decide) ?_
                                refine tr_putKM tm_okF I1736 t1172 (k := 5) rfl ⟨_, rfl⟩ (Or.inl (by decide)) d_TrustDesk_settle_51 p_TrustDesk_284_11 rfl rfl (fun M1742 I1743 q1744 K1745 K1745M => ?_)
                                have K1746 : ∀ (a o : Nat) (w : Value), T0 a = some (3, 3, o) → tm_at M0 a 0 2 w → tm_at M1742 a 0 2 w := fun a o w h q => K1745 _ 0 2 _ rfl (K1739 a o w h q)
                                have K1747 : ∀ (a : Nat) (w : Value), T0 a = some (0, 6, 0) → tm_at M0 a 6 8 w → tm_at M1742 a 6 8 w := fun a w h q => K1745 _ 6 8 _ rfl (K1740 a w h q)
                                have K1748 : ∀ (a : Nat) (w : Value), T0 a = some (0, 11, 0) → a ≠ a15 → tm_at M0 a 11 5 w → tm_at M1742 a 11 5 w := fun a w h hx q => tm_at.eq (K1745M _ hx) (K1741 a w h q)
                                refine mv_iload_n d_TrustDesk_settle_54 rfl rfl ?_
                                refine mv_if_ne_t (tgt := 63) d_TrustDesk_settle_55 (by decide) (by decide) ?_
                                refine mv_iload_n d_TrustDesk_settle_63 rfl rfl ?_
                                exact mv_iret d_TrustDesk_settle_64 rfl (by first | rfl | decide) ⟨_, I1743, _, rfl, (Or.inl ⟨K1746, K1747⟩), Or.inr ⟨by omega, _, _, g16, q1744, by decide, K1748⟩⟩
                            · refine mv_iconst (v := 2) d_TrustDesk_failureOf_46 (by decide) ?_
                              refine mv_iret d_TrustDesk_failureOf_47 rfl (by first | rfl | decide) ?_
                              refine mv_istore_n (lv' := [(3, .int 2), (2, .ref a15), (0, .ref o0), (1, .int x1)]) d_TrustDesk_settle_35 rfl (by decide) rfl ?_
                              refine mv_aload_n d_TrustDesk_settle_36 rfl rfl ?_
                              refine mv_iload_n d_TrustDesk_settle_37 rfl rfl ?_
                              refine tr_putKM tm_okF I1077 t1085 (k := 6) rfl ⟨_, rfl⟩ (Or.inl (by decide)) d_TrustDesk_settle_38 p_TrustDesk_318_11 rfl rfl (fun M1749 I1750 q1751 K1752 K1752M => ?_)
                              have K1753 : ∀ (a o : Nat) (w : Value), T0 a = some (3, 3, o) → tm_at M0 a 0 2 w → tm_at M1749 a 0 2 w := fun a o w h q => K1752 _ 0 2 _ rfl (K1086 a o w h q)
                              have K1754 : ∀ (a : Nat) (w : Value), T0 a = some (0, 6, 0) → tm_at M0 a 6 8 w → tm_at M1749 a 6 8 w := fun a w h q => K1752 _ 6 8 _ rfl (K1087 a w h q)
                              have K1755 : ∀ (a : Nat) (w : Value), T0 a = some (0, 11, 0) → tm_at M0 a 11 5 w → tm_at M1749 a 11 5 w := fun a w h q => K1752 _ 11 5 _ rfl (K1088 a w h q)
                              refine mv_aload_n d_TrustDesk_settle_41 rfl rfl ?_
                              refine mv_iload_n d_TrustDesk_settle_42 rfl rfl ?_
                              refine mv_if_ne_t (tgt := 50) d_TrustDesk_settle_43 (by decide) (by decide) ?_
                              refine mv_iconst (v := 2) d_TrustDesk_settle_50 (by decide) ?_
                              refine tr_putKM tm_okF I1750 t1085 (k := 5) rfl ⟨_, rfl⟩ (Or.inl (by decide)) d_TrustDesk_settle_51 p_TrustDesk_284_11 rfl rfl (fun M1756 I1757 q1758 K1759 K1759M => ?_)
                              have K1760 : ∀ (a o : Nat) (w : Value), T0 a = some (3, 3, o) → tm_at M0 a 0 2 w → tm_at M1756 a 0 2 w := fun a o w h q => K1759 _ 0 2 _ rfl (K1753 a o w h q)
                              have K1761 : ∀ (a : Nat) (w : Value), T0 a = some (0, 6, 0) → tm_at M0 a 6 8 w → tm_at M1756 a 6 8 w := fun a w h q => K1759 _ 6 8 _ rfl (K1754 a w h q)
                              have K1762 : ∀ (a : Nat) (w : Value), T0 a = some (0, 11, 0) → a ≠ a15 → tm_at M0 a 11 5 w → tm_at M1756 a 11 5 w := fun a w h hx q => tm_at.eq (K1759M _ hx) (K1755 a w h q)
                              refine mv_iload_n d_TrustDesk_settle_54 rfl rfl ?_
                              refine mv_if_ne_t (tgt := 63) d_TrustDesk_settle_55 (by decide) (by decide) ?_
                              refine mv_iload_n d_TrustDesk_settle_63 rfl rfl ?_
                              exact mv_iret d_TrustDesk_settle_64 rfl (by first | rfl | decide) ⟨_, I1757, _, rfl, (Or.inl ⟨K1760, K1761⟩), Or.inr ⟨by omega, _, _, g16, q1758, by decide, K1762⟩⟩
                        · refine mv_iconst (v := 1) d_Fund_isJoined_8 (by decide) ?_
                          refine mv_goto (tgt := 13) d_Fund_isJoined_9 (by decide) ?_
                          refine mv_iret d_Fund_isJoined_13 rfl (by decide) ?_
                          refine mv_if_eq_f (tgt := 18) d_TrustDesk_canJoin_13 (by decide) (by decide) ?_
                          refine mv_iconst (v := 0) d_TrustDesk_canJoin_16 (by decide) ?_
                          refine mv_iret d_TrustDesk_canJoin_17 rfl (by decide) ?_
                          refine mv_iret d_TrustDesk_canBe_66 rfl (by decide) ?_
                          refine mv_if_ne_f (tgt := 24) d_TrustDesk_failureOf_19 (by decide) (by decide) ?_
                          refine mv_iconst (v := 1) d_TrustDesk_failureOf_22 (by decide) ?_
                          refine mv_iret d_TrustDesk_failureOf_23 rfl (by first | rfl | decide) ?_
                          refine mv_istore_n (lv' := [(3, .int 1), (2, .ref a15), (0, .ref o0), (1, .int x1)]) d_TrustDesk_settle_35 rfl (by decide) rfl ?_
                          refine mv_aload_n d_TrustDesk_settle_36 rfl rfl ?_
                          refine mv_iload_n d_TrustDesk_settle_37 rfl rfl ?_
                          refine tr_putKM tm_okF I0 t_a15 (k := 6) rfl ⟨_, rfl⟩ (Or.inl (by decide)) d_TrustDesk_settle_38 p_TrustDesk_318_11 rfl rfl (fun M1763 I1764 q1765 K1766 K1766M => ?_)
                          have K1767 : ∀ (a o : Nat) (w : Value), T0 a = some (3, 3, o) → tm_at M0 a 0 2 w → tm_at M1763 a 0 2 w := fun a o w h q => K1766 _ 0 2 _ rfl (K0L a o w h q)
                          have K1768 : ∀ (a : Nat) (w : Value), T0 a = some (0, 6, 0) → tm_at M0 a 6 8 w → tm_at M1763 a 6 8 w := fun a w h q => K1766 _ 6 8 _ rfl (K0J a w h q)
                          have K1769 : ∀ (a : Nat) (w : Value), T0 a = some (0, 11, 0) → tm_at M0 a 11 5 w → tm_at M1763 a 11 5 w := fun a w h q => K1766 _ 11 5 _ rfl (K0Z a w h q)
                          refine mv_aload_n d_TrustDesk_settle_41 rfl rfl ?_
                          refine mv_iload_n d_TrustDesk_settle_42 rfl rfl ?_
                          refine mv_if_ne_t (tgt := 50) d_TrustDesk_settle_43 (by decide) (by decide) ?_
                          refine mv_iconst (v := 2) d_TrustDesk_settle_50 (by decide) ?_
                          refine tr_putKM tm_okF I1764 t_a15 (k := 5) rfl ⟨_, rfl⟩ (Or.inl (by decide)) d_TrustDesk_settle_51 p_TrustDesk_284_11 rfl rfl (fun M1770 I1771 q1772 K1773 K1773M => ?_)
                          have K1774 : ∀ (a o : Nat) (w : Value), T0 a = some (3, 3, o) → tm_at M0 a 0 2 w → tm_at M1770 a 0 2 w := fun a o w h q => K1773 _ 0 2 _ rfl (K1767 a o w h q)
                          have K1775 : ∀ (a : Nat) (w : Value), T0 a = some (0, 6, 0) → tm_at M0 a 6 8 w → tm_at M1770 a 6 8 w := fun a w h q => K1773 _ 6 8 _ rfl (K1768 a w h q)
                          have K1776 : ∀ (a : Nat) (w : Value), T0 a = some (0, 11, 0) → a ≠ a15 → tm_at M0 a 11 5 w → tm_at M1770 a 11 5 w := fun a w h hx q => tm_at.eq (K1773M _ hx) (K1769 a w h q)
                          refine mv_iload_n d_TrustDesk_settle_54 rfl rfl ?_
                          refine mv_if_ne_t (tgt := 63) d_TrustDesk_settle_55 (by decide) (by decide) ?_
                          refine mv_iload_n d_TrustDesk_settle_63 rfl rfl ?_
                          exact mv_iret d_TrustDesk_settle_64 rfl (by first | rfl | decide) ⟨_, I1771, _, rfl, (Or.inl ⟨K1774, K1775⟩), Or.inr ⟨by omega, _, _, g16, q1772, by decide, K1776⟩⟩
                · refine mv_tableIn (tgt := 67) (off := 54) d_TrustDesk_canBe_13 (by omega) (by omega) (by rw [b92]; rfl) (by decide) ?_
                  refine mv_aload_n d_TrustDesk_canBe_67 rfl rfl ?_
                  obtain ⟨v1778, q1777⟩ := tm_atI I0 t_z83 (k := 1) rfl
                  refine tr_getK q1777 d_TrustDesk_canBe_68 f_TrustDesk_356_6 ?_
                  refine mv_aload_n d_TrustDesk_canBe_71 rfl rfl ?_
                  obtain ⟨v1780, q1779⟩ := tm_atI I0 t_a15 (k := 2) rfl
                  refine tr_getK q1779 d_TrustDesk_canBe_72 f_TrustDesk_311_11 ?_
                  have := mz_hi v1778
                  have := mz_hi v1780
                  refine mv_icmp_ltZ (tgt := 82) (a := v1778.toInt) (b := v1780.toInt) d_TrustDesk_canBe_75 (by decide) rfl rfl (fun b1781 => ?_) (fun b1781 => ?_)
                  · refine mv_iconst (v := 0) d_TrustDesk_canBe_82 (by decide) ?_
                    refine mv_iret d_TrustDesk_canBe_83 rfl (by decide) ?_
                    refine mv_if_ne_f (tgt := 24) d_TrustDesk_failureOf_19 (by decide) (by decide) ?_
                    refine mv_iconst (v := 1) d_TrustDesk_failureOf_22 (by decide) ?_
                    refine mv_iret d_TrustDesk_failureOf_23 rfl (by first | rfl | decide) ?_
                    refine mv_istore_n (lv' := [(3, .int 1), (2, .ref a15), (0, .ref o0), (1, .int x1)]) d_TrustDesk_settle_35 rfl (by decide) rfl ?_
                    refine mv_aload_n d_TrustDesk_settle_36 rfl rfl ?_
                    refine mv_iload_n d_TrustDesk_settle_37 rfl rfl ?_
                    refine tr_putKM tm_okF I0 t_a15 (k := 6) rfl ⟨_, rfl⟩ (Or.inl (by decide)) d_TrustDesk_settle_38 p_TrustDesk_318_11 rfl rfl (fun M1782 I1783 q1784 K1785 K1785M => ?_)
                    have K1786 : ∀ (a o : Nat) (w : Value), T0 a = some (3, 3, o) → tm_at M0 a 0 2 w → tm_at M1782 a 0 2 w := fun a o w h q => K1785 _ 0 2 _ rfl (K0L a o w h q)
                    have K1787 : ∀ (a : Nat) (w : Value), T0 a = some (0, 6, 0) → tm_at M0 a 6 8 w → tm_at M1782 a 6 8 w := fun a w h q => K1785 _ 6 8 _ rfl (K0J a w h q)
                    have K1788 : ∀ (a : Nat) (w : Value), T0 a = some (0, 11, 0) → tm_at M0 a 11 5 w → tm_at M1782 a 11 5 w := fun a w h q => K1785 _ 11 5 _ rfl (K0Z a w h q)
                    refine mv_aload_n d_TrustDesk_settle_41 rfl rfl ?_
                    refine mv_iload_n d_TrustDesk_settle_42 rfl rfl ?_
                    refine mv_if_ne_t (tgt := 50) d_TrustDesk_settle_43 (by decide) (by decide) ?_
                    refine mv_iconst (v := 2) d_TrustDesk_settle_50 (by decide) ?_
                    refine tr_putKM tm_okF I1783 t_a15 (k := 5) rfl ⟨_, rfl⟩ (Or.inl (by decide)) d_TrustDesk_settle_51 p_TrustDesk_284_11 rfl rfl (fun M1789 I1790 q1791 K1792 K1792M => ?_)
                    have K1793 : ∀ (a o : Nat) (w : Value), T0 a = some (3, 3, o) → tm_at M0 a 0 2 w → tm_at M1789 a 0 2 w := fun a o w h q => K1792 _ 0 2 _ rfl (K1786 a o w h q)
                    have K1794 : ∀ (a : Nat) (w : Value), T0 a = some (0, 6, 0) → tm_at M0 a 6 8 w → tm_at M1789 a 6 8 w := fun a w h q => K1792 _ 6 8 _ rfl (K1787 a w h q)
                    have K1795 : ∀ (a : Nat) (w : Value), T0 a = some (0, 11, 0) → a ≠ a15 → tm_at M0 a 11 5 w → tm_at M1789 a 11 5 w := fun a w h hx q => tm_at.eq (K1792M _ hx) (K1788 a w h q)
                    refine mv_iload_n d_TrustDesk_settle_54 rfl rfl ?_
                    refine mv_if_ne_t (tgt := 63) d_TrustDesk_settle_55 (by decide) (by decide) ?_
                    refine mv_iload_n d_TrustDesk_settle_63 rfl rfl ?_
                    exact mv_iret d_TrustDesk_settle_64 rfl (by first | rfl | decide) ⟨_, I1790, _, rfl, (Or.inl ⟨K1793, K1794⟩), Or.inr ⟨by omega, _, _, g16, q1791, by decide, K1795⟩⟩
                  · refine mv_iconst (v := 1) d_TrustDesk_canBe_78 (by decide) ?_
                    refine mv_goto (tgt := 83) d_TrustDesk_canBe_79 (by decide) ?_
                    refine mv_iret d_TrustDesk_canBe_83 rfl (by decide) ?_
                    refine mv_if_ne_t (tgt := 24) d_TrustDesk_failureOf_19 (by decide) (by decide) ?_
                    refine mv_aload_n d_TrustDesk_failureOf_24 rfl rfl ?_
                    refine mv_aload_n d_TrustDesk_failureOf_25 rfl rfl ?_
                    refine tr_getK (k := 12) yt d_TrustDesk_failureOf_26 f_TrustDesk_73_12 ?_
                    obtain ⟨_, b1802, -⟩ := I0.1 _ _ h_o0
                    refine mv_callV (kc' := 0) (ks' := 0) (As := [.int t]) (st9 := [.int t, .ref o0]) d_TrustDesk_failureOf_29 lV_TrustDesk_114 b1802 rfl (tc_TrustDesk_inForce (d := (d + 5)) (x9 := x9) (o0 := o0) (x1 := t) h_o0 I0.start) rfl (Nat.le_of_ble_eq_true rfl) (Nat.le_of_ble_eq_true rfl) (Nat.le_of_ble_eq_true rfl) (hst := rfl) (fun b1796r M1797 n1798 b1796 => ?_)
                    obtain ⟨T1799, J1800, a1803, rfl, t_a1803⟩ := b1796
                    have I1801 := I0.call J1800 (tm_sub (by decide)) (Or.inl rfl)
                    have t1804 := J1800.up t_z83
                    have t1805 := J1800.up h_o0
                    have t1806 := J1800.up t_a15
                    have K1807 : ∀ (a o : Nat) (w : Value), T0 a = some (3, 3, o) → tm_at M0 a 0 2 w → tm_at M1797 a 0 2 w := fun a o w h q => J1800.keepL (I0.up h) (by decide) (K0L a o w h q)
                    have K1808 : ∀ (a : Nat) (w : Value), T0 a = some (0, 6, 0) → tm_at M0 a 6 8 w → tm_at M1797 a 6 8 w := fun a w h q => J1800.keep (I0.up h) (by decide) (K0J a w h q)
                    have K1809 : ∀ (a : Nat) (w : Value), T0 a = some (0, 11, 0) → tm_at M0 a 11 5 w → tm_at M1797 a 11 5 w := fun a w h q => J1800.keep (I0.up h) (by decide) (K0Z a w h q)
                    have q1810 := J1800.keep h_o0 (by decide) q_Lf
                    have t1811 := J1800.up h_Lf
                    have q1812 := J1800.keep h_o0 (by decide) q_Ls
                    have t1813 := J1800.up h_Ls
                    have q1814 := J1800.keepL h_Ls (by decide) yks
                    have q1815 := J1800.keep h_o0 (by decide) yt
                    have q1816 := J1800.keep t_a15 (by decide) q23
                    have q1817 := J1800.keep t_a15 (by decide) q25
                    have q1818 := J1800.keep t_a15 (by decide) q27
                    have q1819 := J1800.keep t_a15 (by decide) q35
                    have q1820 := J1800.keepL h_Lf (by decide) q59
                    have q1821 := J1800.keep t_z83 (by decide) q87
                    have q1822 := J1800.keep t_a15 (by decide) q90
                    have q1823 := J1800.keep t_z83 (by decide) q1777
                    have q1824 := J1800.keep t_a15 (by decide) q1779
                    refine mv_astore_n (lv' := [(3, .ref a1803), (2, .ref a81), (0, .ref o0), (1, .ref a15)]) d_TrustDesk_failureOf_32 rfl (by decide) rfl ?_
                    refine mv_aload_n d_TrustDesk_failureOf_33 rfl rfl ?_
                    refine mv_aload_n d_TrustDesk_failureOf_34 rfl rfl ?_
                    refine tr_getK (k := 0) q1822 d_TrustDesk_failureOf_35 f_TrustDesk_308_11 ?_
                    refine mv_aload_n d_TrustDesk_failureOf_38 rfl rfl ?_
                    refine mv_aload_n d_TrustDesk_failureOf_39 rfl rfl ?_
                    obtain ⟨_, b1831, -⟩ := I1801.1 _ _ t1805
                    refine mv_callV (kc' := 0) (ks' := 0) (As := [.int v91, .ref a81, .ref a1803]) (st9 := [.ref a1803, .ref a81, .int v91, .ref o0]) d_TrustDesk_failureOf_40 lV_TrustDesk_329 b1831 rfl (tc_TrustDesk_isBarred (d := (d + 4)) (x9 := x9) (o0 := o0) (x1 := v91) (o2 := a81) (o3 := a1803) t1805 t1804 t_a1803 I1801.start) rfl (Nat.le_of_ble_eq_true rfl) (Nat.le_of_ble_eq_true rfl) (Nat.le_of_ble_eq_true rfl) (hst := rfl) (fun b1825r M1826 n1827 b1825 => ?_)
                    obtain ⟨T1828, J1829, v1832, rfl, b1833, b1834⟩ := b1825
                    have I1830 := I1801.call J1829 (tm_sub (by decide)) (Or.inl rfl)
                    have t1835 := J1829.up t_a1803
                    have t1836 := J1829.up t1804
                    have t1837 := J1829.up t1805
                    have t1838 := J1829.up t1806
                    have K1839 : ∀ (a o : Nat) (w : Value), T0 a = some (3, 3, o) → tm_at M0 a 0 2 w → tm_at M1826 a 0 2 w := fun a o w h q => J1829.keepL (I1801.up h) (by decide) (K1807 a o w h q)
                    have K1840 : ∀ (a : Nat) (w : Value), T0 a = some (0, 6, 0) → tm_at M0 a 6 8 w → tm_at M1826 a 6 8 w := fun a w h q => J1829.keep (I1801.up h) (by decide) (K1808 a w h q)
                    have K1841 : ∀ (a : Nat) (w : Value), T0 a = some (0, 11, 0) → tm_at M0 a 11 5 w → tm_at M1826 a 11 5 w := fun a w h q => J1829.keep (I1801.up h) (by decide) (K1809 a w h q)
                    have q1842 := J1829.keep t1805 (by decide) q1810
                    have t1843 := J1829.up t1811
                    have q1844 := J1829.keep t1805 (by decide) q1812
                    have t1845 := J1829.up t1813
                    have q1846 := J1829.keepL t1813 (by decide) q1814
                    have q1847 := J1829.keep t1805 (by decide) q1815
                    have q1848 := J1829.keep t1806 (by decide) q1816
                    have q1849 := J1829.keep t1806 (by decide) q1817
                    have q1850 := J1829.keep t1806 (by decide) q1818
                    have q1851 := J1829.keep t1806 (by decide) q1819
                    have q1852 := J1829.keepL t1811 (by decide) q1820
                    have q1853 := J1829.keep t1804 (by decide) q1821
                    have q1854 := J1829.keep t1806 (by decide) q1822
                    have q1855 := J1829.keep t1804 (by decide) q1823
                    have q1856 := J1829.keep t1806 (by decide) q1824
                    have := mz_hi v1832
                    refine mv_if_eqZ (tgt := 48) (a := v1832.toInt) d_TrustDesk_failureOf_43 (by decide) rfl (fun b1857 => ?_) (fun b1857 => ?_)
                    · refine mv_aload_n d_TrustDesk_failureOf_48 rfl rfl ?_
                      refine mv_aload_n d_TrustDesk_failureOf_49 rfl rfl ?_
                      refine mv_aload_n d_TrustDesk_failureOf_50 rfl rfl ?_
                      obtain ⟨_, b1864, -⟩ := I1830.1 _ _ t1837
                      refine mv_callV (kc' := 0) (ks' := 0) (As := [.ref a15, .ref a81]) (st9 := [.ref a81, .ref a15, .ref o0]) d_TrustDesk_failureOf_51 lV_TrustDesk_333 b1864 rfl (tc_TrustDesk_marksLeft (d := (d + 4)) (x9 := x9) (o0 := o0) (o1 := a15) (o2 := a81) t1837 t1838 t1836 I1830.start) rfl (Nat.le_of_ble_eq_true rfl) (Nat.le_of_ble_eq_true rfl) (Nat.le_of_ble_eq_true rfl) (hst := rfl) (fun b1858r M1859 n1860 b1858 => ?_)
                      obtain ⟨T1861, J1862, v1865, rfl⟩ := b1858
                      have I1863 := I1830.call J1862 (tm_sub (by decide)) (Or.inl rfl)
                      have t1866 := J1862.up t1835
                      have t1867 := J1862.up t1836
                      have t1868 := J1862.up t1837
                      have t1869 := J1862.up t1838
                      have K1870 : ∀ (a o : Nat) (w : Value), T0 a = some (3, 3, o) → tm_at M0 a 0 2 w → tm_at M1859 a 0 2 w := fun a o w h q => J1862.keepL (I1830.up h) (by decide) (K1839 a o w h q)
                      have K1871 : ∀ (a : Nat) (w : Value), T0 a = some (0, 6, 0) → tm_at M0 a 6 8 w → tm_at M1859 a 6 8 w := fun a w h q => J1862.keep (I1830.up h) (by decide) (K1840 a w h q)
                      have K1872 : ∀ (a : Nat) (w : Value), T0 a = some (0, 11, 0) → tm_at M0 a 11 5 w → tm_at M1859 a 11 5 w := fun a w h q => J1862.keep (I1830.up h) (by decide) (K1841 a w h q)
                      have q1873 := J1862.keep t1837 (by decide) q1842
                      have t1874 := J1862.up t1843
                      have q1875 := J1862.keep t1837 (by decide) q1844
                      have t1876 := J1862.up t1845
                      have q1877 := J1862.keepL t1845 (by decide) q1846
                      have q1878 := J1862.keep t1837 (by decide) q1847
                      have q1879 := J1862.keep t1838 (by decide) q1848
                      have q1880 := J1862.keep t1838 (by decide) q1849
                      have q1881 := J1862.keep t1838 (by decide) q1850
                      have q1882 := J1862.keep t1838 (by decide) q1851
                      have q1883 := J1862.keepL t1843 (by decide) q1852
                      have q1884 := J1862.keep t1836 (by decide) q1853
                      have q1885 := J1862.keep t1838 (by decide) q1854
                      have q1886 := J1862.keep t1836 (by decide) q1855
                      have q1887 := J1862.keep t1838 (by decide) q1856
                      refine mv_callS (kc' := 0) (ks' := 0) (As := [.int v1865]) (st9 := [.int v1865]) d_TrustDesk_failureOf_54 lS_TrustDesk_337 (tc_Integer_bitCount (d := (d + 8)) (x9 := x9) (x1 := v1865)  I1863.start) rfl (Nat.le_of_ble_eq_true rfl) (Nat.le_of_ble_eq_true rfl) (Nat.le_of_ble_eq_true rfl) (hst := rfl) (fun b1888r M1889 n1890 b1888 => ?_)
                      obtain ⟨T1891, J1892, v1894, rfl⟩ := b1888
                      have I1893 := I1863.call J1892 (tm_sub (by decide)) (Or.inl rfl)
                      have t1895 := J1892.up t1866
                      have t1896 := J1892.up t1867
                      have t1897 := J1892.up t1868
                      have t1898 := J1892.up t1869
                      have K1899 : ∀ (a o : Nat) (w : Value), T0 a = some (3, 3, o) → tm_at M0 a 0 2 w → tm_at M1889 a 0 2 w := fun a o w h q => J1892.keepL (I1863.up h) (by decide) (K1870 a o w h q)
                      have K1900 : ∀ (a : Nat) (w : Value), T0 a = some (0, 6, 0) → tm_at M0 a 6 8 w → tm_at M1889 a 6 8 w := fun a w h q => J1892.keep (I1863.up h) (by decide) (K1871 a w h q)
                      have K1901 : ∀ (a : Nat) (w : Value), T0 a = some (0, 11, 0) → tm_at M0 a 11 5 w → tm_at M1889 a 11 5 w := fun a w h q => J1892.keep (I1863.up h) (by decide) (K1872 a w h q)
                      have q1902 := J1892.keep t1868 (by decide) q1873
                      have t1903 := J1892.up t1874
                      have q1904 := J1892.keep t1868 (by decide) q1875
                      have t1905 := J1892.up t1876
                      have q1906 := J1892.keepL t1876 (by decide) q1877
                      have q1907 := J1892.keep t1868 (by decide) q1878
                      have q1908 := J1892.keep t1869 (by decide) q1879
                      have q1909 := J1892.keep t1869 (by decide) q1880
                      have q1910 := J1892.keep t1869 (by decide) q1881
                      have q1911 := J1892.keep t1869 (by decide) q1882
                      have q1912 := J1892.keepL t1874 (by decide) q1883
                      have q1913 := J1892.keep t1867 (by decide) q1884
                      have q1914 := J1892.keep t1869 (by decide) q1885
                      have q1915 := J1892.keep t1867 (by decide) q1886
                      have q1916 := J1892.keep t1869 (by decide) q1887
                      refine mv_aload_n d_TrustDesk_failureOf_57 rfl rfl ?_
                      refine mv_iconst (v := 1) d_TrustDesk_failureOf_58 (by decide) ?_
                      obtain ⟨_, b1923, -⟩ := I1893.1 _ _ t1895
                      refine mv_callV (kc' := 0) (ks' := 0) (As := [.int 1]) (st9 := [.int 1, .ref a1803, .int v1894]) d_TrustDesk_failureOf_59 lV_TrustDesk_118 b1923 rfl (tc_Act_rule (d := (d + 8)) (x9 := x9) (o0 := a1803) (x1 := 1) t1895 I1893.start) rfl (Nat.le_of_ble_eq_true rfl) (Nat.le_of_ble_eq_true rfl) (Nat.le_of_ble_eq_true rfl) (hst := rfl) (fun b1917r M1918 n1919 b1917 => ?_)
                      obtain ⟨T1920, J1921, v1924, rfl⟩ := b1917
                      have I1922 := I1893.call J1921 (tm_sub (by decide)) (Or.inl rfl)
                      have t1925 := J1921.up t1895
                      have t1926 := J1921.up t1896
                      have t1927 := J1921.up t1897
                      have t1928 := J1921.up t1898
                      have K1929 : ∀ (a o : Nat) (w : Value), T0 a = some (3, 3, o) → tm_at M0 a 0 2 w → tm_at M1918 a 0 2 w := fun a o w h q => J1921.keepL (I1893.up h) (by decide) (K1899 a o w h q)
                      have K1930 : ∀ (a : Nat) (w : Value), T0 a = some (0, 6, 0) → tm_at M0 a 6 8 w → tm_at M1918 a 6 8 w := fun a w h q => J1921.keep (I1893.up h) (by decide) (K1900 a w h q)
                      have K1931 : ∀ (a : Nat) (w : Value), T0 a = some (0, 11, 0) → tm_at M0 a 11 5 w → tm_at M1918 a 11 5 w := fun a w h q => J1921.keep (I1893.up h) (by decide) (K1901 a w h q)
                      have q1932 := J1921.keep t1897 (by decide) q1902
                      have t1933 := J1921.up t1903
                      have q1934 := J1921.keep t1897 (by decide) q1904
                      have t1935 := J1921.up t1905
                      have q1936 := J1921.keepL t1905 (by decide) q1906
                      have q1937 := J1921.keep t1897 (by decide) q1907
                      have q1938 := J1921.keep t1898 (by decide) q1908
                      have q1939 := J1921.keep t1898 (by decide) q1909
                      have q1940 := J1921.keep t1898 (by decide) q1910
                      have q1941 := J1921.keep t1898 (by decide) q1911
                      have q1942 := J1921.keepL t1903 (by decide) q1912
                      have q1943 := J1921.keep t1896 (by decide) q1913
                      have q1944 := J1921.keep t1898 (by decide) q1914
                      have q1945 := J1921.keep t1896 (by decide) q1915
                      have q1946 := J1921.keep t1898 (by decide) q1916
                      have := mz_hi v1894
                      have := mz_hi v1924
                      refine mv_icmp_geZ (tgt := 67) (a := v1894.toInt) (b := v1924.toInt) d_TrustDesk_failureOf_62 (by decide) rfl rfl (fun b1947 => ?_) (fun b1947 => ?_)
                      · refine mv_aload_n d_TrustDesk_failureOf_67 rfl rfl ?_
                        refine mv_aload_n d_TrustDesk_failureOf_68 rfl rfl ?_
                        refine mv_aload_n d_TrustDesk_failureOf_69 rfl rfl ?_
                        obtain ⟨_, b1954, -⟩ := I1922.1 _ _ t1927
                        refine mv_callV (kc' := 0) (ks' := 0) (As := [.ref a15, .ref a81]) (st9 := [.ref a81, .ref a15, .ref o0]) d_TrustDesk_failureOf_70 lV_TrustDesk_342 b1954 rfl (tc_TrustDesk_isCarried (d := (d + 4)) (x9 := x9) (o0 := o0) (o1 := a15) (o2 := a81) t1927 t1928 t1926 I1922.start) rfl (Nat.le_of_ble_eq_true rfl) (Nat.le_of_ble_eq_true rfl) (Nat.le_of_ble_eq_true rfl) (hst := rfl) (fun b1948r M1949 n1950 b1948 => ?_)
                        obtain ⟨T1951, J1952, v1955, rfl, b1956, b1957⟩ := b1948
                        have I1953 := I1922.call J1952 (tm_sub (by decide)) (Or.inl rfl)
                        have t1958 := J1952.up t1925
                        have t1959 := J1952.up t1926
                        have t1960 := J1952.up t1927
                        have t1961 := J1952.up t1928
                        have K1962 : ∀ (a o : Nat) (w : Value), T0 a = some (3, 3, o) → tm_at M0 a 0 2 w → tm_at M1949 a 0 2 w := fun a o w h q => J1952.keepL (I1922.up h) (by decide) (K1929 a o w h q)
                        have K1963 : ∀ (a : Nat) (w : Value), T0 a = some (0, 6, 0) → tm_at M0 a 6 8 w → tm_at M1949 a 6 8 w := fun a w h q => J1952.keep (I1922.up h) (by decide) (K1930 a w h q)
                        have K1964 : ∀ (a : Nat) (w : Value), T0 a = some (0, 11, 0) → tm_at M0 a 11 5 w → tm_at M1949 a 11 5 w := fun a w h q => J1952.keep (I1922.up h) (by decide) (K1931 a w h q)
                        have q1965 := J1952.keep t1927 (by decide) q1932
                        have t1966 := J1952.up t1933
                        have q1967 := J1952.keep t1927 (by decide) q1934
                        have t1968 := J1952.up t1935
                        have q1969 := J1952.keepL t1935 (by decide) q1936
                        have q1970 := J1952.keep t1927 (by decide) q1937
                        have q1971 := J1952.keep t1928 (by decide) q1938
                        have q1972 := J1952.keep t1928 (by decide) q1939
                        have q1973 := J1952.keep t1928 (by decide) q1940
                        have q1974 := J1952.keep t1928 (by decide) q1941
                        have q1975 := J1952.keepL t1933 (by decide) q1942
                        have q1976 := J1952.keep t1926 (by decide) q1943
                        have q1977 := J1952.keep t1928 (by decide) q1944
                        have q1978 := J1952.keep t1926 (by decide) q1945
                        have q1979 := J1952.keep t1928 (by decide) q1946
                        have := mz_hi v1955
                        refine mv_if_neZ (tgt := 78) (a := v1955.toInt) d_TrustDesk_failureOf_73 (by decide) rfl (fun b1980 => ?_) (fun b1980 => ?_)
                        · refine mv_aload_n d_TrustDesk_failureOf_78 rfl rfl ?_
                          refine tr_getK (k := 7) q1973 d_TrustDesk_failureOf_79 f_TrustDesk_345_11 ?_
                          have := mz_hi c22
                          refine mv_if_leZ (tgt := 89) (a := c22.toInt) d_TrustDesk_failureOf_82 (by decide) rfl (fun b1981 => ?_) (fun b1981 => ?_)
                          · refine mv_iconst (v := 0) d_TrustDesk_failureOf_89 (by decide) ?_
                            refine mv_iret d_TrustDesk_failureOf_90 rfl (by first | rfl | decide) ?_
                            refine mv_istore_n (lv' := [(3, .int 0), (2, .ref a15), (0, .ref o0), (1, .int x1)]) d_TrustDesk_settle_35 rfl (by decide) rfl ?_
                            refine mv_aload_n d_TrustDesk_settle_36 rfl rfl ?_
                            refine mv_iload_n d_TrustDesk_settle_37 rfl rfl ?_
                            refine tr_putKM tm_okF I1953 t1961 (k := 6) rfl ⟨_, rfl⟩ (Or.inl (by decide)) d_TrustDesk_settle_38 p_TrustDesk_318_11 rfl rfl (fun M1982 I1983 q1984 K1985 K1985M => ?_)
                            have K1986 : ∀ (a o : Nat) (w : Value), T0 a = some (3, 3, o) → tm_at M0 a 0 2 w → tm_at M1982 a 0 2 w := fun a o w h q => K1985 _ 0 2 _ rfl (K1962 a o w h q)
                            have K1987 : ∀ (a : Nat) (w : Value), T0 a = some (0, 6, 0) → tm_at M0 a 6 8 w → tm_at M1982 a 6 8 w := fun a w h q => K1985 _ 6 8 _ rfl (K1963 a w h q)
                            have K1988 : ∀ (a : Nat) (w : Value), T0 a = some (0, 11, 0) → tm_at M0 a 11 5 w → tm_at M1982 a 11 5 w := fun a w h q => K1985 _ 11 5 _ rfl (K1964 a w h q)
                            refine mv_aload_n d_TrustDesk_settle_41 rfl rfl ?_
                            refine mv_iload_n d_TrustDesk_settle_42 rfl rfl ?_
                            refine mv_if_ne_f (tgt := 50) d_TrustDesk_settle_43 (by decide) (by decide) ?_
                            refine mv_iconst (v := 1) d_TrustDesk_settle_46 (by decide) ?_
                            refine mv_goto (tgt := 51) d_TrustDesk_settle_47 (by decide) ?_
                            refine tr_putKM tm_okF I1983 t1961 (k := 5) rfl ⟨_, rfl⟩ (Or.inl (by decide)) d_TrustDesk_settle_51 p_TrustDesk_284_11 rfl rfl (fun M1989 I1990 q1991 K1992 K1992M => ?_)
                            have K1993 : ∀ (a o : Nat) (w : Value), T0 a = some (3, 3, o) → tm_at M0 a 0 2 w → tm_at M1989 a 0 2 w := fun a o w h q => K1992 _ 0 2 _ rfl (K1986 a o w h q)
                            have K1994 : ∀ (a : Nat) (w : Value), T0 a = some (0, 6, 0) → tm_at M0 a 6 8 w → tm_at M1989 a 6 8 w := fun a w h q => K1992 _ 6 8 _ rfl (K1987 a w h q)
                            have K1995 : ∀ (a : Nat) (w : Value), T0 a = some (0, 11, 0) → a ≠ a15 → tm_at M0 a 11 5 w → tm_at M1989 a 11 5 w := fun a w h hx q => tm_at.eq (K1992M _ hx) (K1988 a w h q)
                            refine mv_iload_n d_TrustDesk_settle_54 rfl rfl ?_
                            refine mv_if_ne_f (tgt := 63) d_TrustDesk_settle_55 (by decide) (by decide) ?_
                            refine mv_aload_n d_TrustDesk_settle_58 rfl rfl ?_
                            refine mv_aload_n d_TrustDesk_settle_59 rfl rfl ?_
                            obtain ⟨_, b1996, -⟩ := I1990.1 _ _ t1960
                            refine mv_callV (kc1 := 0) (ks1 := 0) (kc' := 0) (ks' := 0) (As := [.ref a15]) (st9 := [.ref a15, .ref o0]) d_TrustDesk_settle_60 lV_TrustDesk_321 b1996 rfl (mj_enter (by decide) (Nat.le_of_ble_eq_true rfl) ?_) rfl (Nat.le_of_ble_eq_true rfl) (Nat.le_of_ble_eq_true rfl) (Nat.le_of_ble_eq_true rfl) (hst := rfl) (fun _ _ _ h => h)
                            refine mv_aload_n d_TrustDesk_carryOut_0 rfl rfl ?_
                            refine mv_aload_n d_TrustDesk_carryOut_1 rfl rfl ?_
                            refine tr_getK (k := 1) (K1992 _ 11 1 _ rfl (K1985 _ 11 1 _ rfl q1974)) d_TrustDesk_carryOut_2 f_TrustDesk_302_11 ?_
                            obtain ⟨_, b1997, -⟩ := I1990.1 _ _ t1960
                            refine mv_callV (kc1 := 0) (ks1 := 0) (kc' := 0) (ks' := 0) (As := [.int v36]) (st9 := [.int v36, .ref o0]) d_TrustDesk_carryOut_5 lV_TrustDesk_257 b1997 rfl (mj_enter (by decide) (Nat.le_of_ble_eq_true rfl) ?_) rfl (Nat.le_of_ble_eq_true rfl) (Nat.le_of_ble_eq_true rfl) (Nat.le_of_ble_eq_true rfl) (hst := rfl) (fun _ _ _ h => h)
                            refine mv_iload_n d_TrustDesk_fundAt_0 rfl rfl ?_
                            have := mz_hi v36
                            refine mv_if_ltZ (tgt := 29) (a := v36.toInt) d_TrustDesk_fundAt_1 (by decide) rfl (fun b1998 => absurd b1998 (by omega)) (fun b1998 => ?_)
                            refine mv_iload_n d_TrustDesk_fundAt_4 rfl rfl ?_
                            refine mv_aload_n d_TrustDesk_fundAt_5 rfl rfl ?_
                            refine tr_getK (k := 6) (K1992 _ 12 6 _ rfl (K1985 _ 12 6 _ rfl q1965)) d_TrustDesk_fundAt_6 f_TrustDesk_53_12 ?_
                            obtain ⟨m2000, e2001, N2002, f2003, h1999⟩ := tm_lsn I1990 t1966 (K1992 _ 0 2 _ rfl (K1985 _ 0 2 _ rfl q1975))
                            refine mv_callV_s (kc' := 0) (ks' := 0) [] [.ref Lf, .int v36] d_TrustDesk_fundAt_9 lV_TrustDesk_97 h1999.1 rfl (tc_L_size (d := (d + 7)) h1999.1) rfl (Nat.le_of_ble_eq_true rfl) (Nat.le_of_ble_eq_true rfl) (Nat.le_of_ble_eq_true rfl) rfl ?_
                            have := mz_hi v36
                            have := mz_hi n58
                            refine mv_icmp_geZ (tgt := 29) (a := v36.toInt) (b := n58.toInt) d_TrustDesk_fundAt_12 (by decide) rfl rfl (fun b2004 => ?_) (fun b2004 => ?_)
                            · refine mv_null d_TrustDesk_fundAt_29 ?_
                              refine mv_aret (r := none) d_TrustDesk_fundAt_30 rfl (by first | exact Or.inl ⟨_, rfl⟩ | exact Or.inr ⟨_, rfl⟩) ?_
                              refine mv_astore_nN (lv' := [(2, .null), (0, .ref o0), (1, .ref a15)]) d_TrustDesk_carryOut_8 rfl (by decide) rfl ?_
                              refine mv_aload_nN d_TrustDesk_carryOut_9 rfl rfl ?_
                              refine mv_ifnonnullN d_TrustDesk_carryOut_10 ?_
                              refine mv_vret d_TrustDesk_carryOut_13 rfl ?_
                              refine mv_iload_n d_TrustDesk_settle_63 rfl rfl ?_
                              exact mv_iret d_TrustDesk_settle_64 rfl (by first | rfl | decide) ⟨_, I1990, _, rfl, (Or.inl ⟨K1993, K1994⟩), Or.inr ⟨by omega, _, _, g16, q1991, by decide, K1995⟩⟩
                            · refine mv_aload_n d_TrustDesk_fundAt_15 rfl rfl ?_
                              refine tr_getK (k := 6) (K1992 _ 12 6 _ rfl (K1985 _ 12 6 _ rfl q1965)) d_TrustDesk_fundAt_16 f_TrustDesk_53_12 ?_
                              refine mv_iload_n d_TrustDesk_fundAt_19 rfl rfl ?_
                              obtain ⟨m2006, e2007, N2008, f2009, h2005⟩ := tm_lsn I1990 t1966 (K1992 _ 0 2 _ rfl (K1985 _ 0 2 _ rfl q1975))
                              have u2010e := (tm_el (i := v36) h2005 (by omega) (by omega)).1
                              have u2010i := (tm_el (i := v36) h2005 (by omega) (by omega)).2.1
                              obtain ⟨_, u2010f, u2010t⟩ := tm_ge.el h2005 (I1990.keepG I0.1 h_Lf (by decide) g82)
                              have t_z2011 : T1951 a81 = some (0, 6, 0) := u2010t
                              refine mv_callV_s (kc' := 0) (ks' := 0) [.int v36] [.int v36, .ref Lf] d_TrustDesk_fundAt_20 lV_TrustDesk_158 h2005.1 rfl (tc_L_get (d := (d + 5)) h2005.1 u2010e (by omega) (by omega) u2010i u2010f) rfl (Nat.le_of_ble_eq_true rfl) (Nat.le_of_ble_eq_true rfl) (Nat.le_of_ble_eq_true rfl) rfl ?_
                              obtain ⟨_, b2012, -⟩ := I1990.1 _ _ t_z2011
                              refine mv_castS (T9 := kF_Fund) (N := 15) d_TrustDesk_fundAt_23 (mj_in1 (List.mem_of_getElem? (i := 655) (by decide +kernel)) rfl) b2012 rfl ?_
                              refine mv_goto (tgt := 30) d_TrustDesk_fundAt_26 (by decide) ?_
                              refine mv_aret (r := (some a81)) d_TrustDesk_fundAt_30 rfl (by first | exact Or.inl ⟨_, rfl⟩ | exact Or.inr ⟨_, rfl⟩) ?_
                              refine mv_astore_n (lv' := [(2, .ref a81), (0, .ref o0), (1, .ref a15)]) d_TrustDesk_carryOut_8 rfl (by decide) rfl ?_
                              refine mv_aload_n d_TrustDesk_carryOut_9 rfl rfl ?_
                              refine mv_ifnonnull (tgt := 14) d_TrustDesk_carryOut_10 (by decide) ?_
                              refine mv_aload_n d_TrustDesk_carryOut_14 rfl rfl ?_
                              refine tr_getK (k := 0) (K1992 _ 11 0 _ rfl (K1985 _ 11 0 _ rfl q1977)) d_TrustDesk_carryOut_15 f_TrustDesk_308_11 ?_
                              refine mv_tableIn (tgt := 76) (off := 58) d_TrustDesk_carryOut_18 (by omega) (by omega) (by rw [b92]; rfl) (by decide) ?_
                              refine mv_aload_n d_TrustDesk_carryOut_76 rfl rfl ?_
                              refine mv_aload_n d_TrustDesk_carryOut_77 rfl rfl ?_
                              refine mv_aload_n d_TrustDesk_carryOut_78 rfl rfl ?_
                              refine tr_getK (k := 2) (K1992 _ 11 2 _ rfl (K1985 _ 11 2 _ rfl q1979)) d_TrustDesk_carryOut_79 f_TrustDesk_311_11 ?_
                              obtain ⟨_, b2019, -⟩ := I1990.1 _ _ t1960
                              refine mv_callV (kc' := 0) (ks' := 0) (As := [.ref a81, .int v1780]) (st9 := [.int v1780, .ref a81, .ref o0]) d_TrustDesk_carryOut_82 lV_TrustDesk_399 b2019 rfl (tc_TrustDesk_sell (d := (d + 4)) (x9 := x9) (o0 := o0) (o1 := a81) (x2 := v1780) t1960 t_z2011 I1990.start) rfl (Nat.le_of_ble_eq_true rfl) (Nat.le_of_ble_eq_true rfl) (Nat.le_of_ble_eq_true rfl) (hst := rfl) (fun b2013r M2014 n2015 b2013 => ?_)
                              obtain ⟨T2016, J2017, rfl⟩ := b2013
                              have I2018 := I1990.call J2017 (tm_sub (by decide)) (Or.inl rfl)
                              have t2020 := J2017.up t_z2011
                              have t2021 := J2017.up t1960
                              have t2022 := J2017.up t1961
                              have K2023 : ∀ (a o : Nat) (w : Value), T0 a = some (3, 3, o) → tm_at M0 a 0 2 w → tm_at M2014 a 0 2 w := fun a o w h q => J2017.keepL (I1990.up h) (by decide) (K1993 a o w h q)
                              have K2024 : ∀ (a : Nat) (w : Value), T0 a = some (0, 6, 0) → tm_at M0 a 6 8 w → tm_at M2014 a 6 8 w := fun a w h q => J2017.keep (I1990.up h) (by decide) (K1994 a w h q)
                              have K2025 : ∀ (a : Nat) (w : Value), T0 a = some (0, 11, 0) → a ≠ a15 → tm_at M0 a 11 5 w → tm_at M2014 a 11 5 w := fun a w h hx q => J2017.keep (I1990.up h) (by decide) (K1995 a w h hx q)
                              have q2026 := J2017.keep t1960 (by decide) (K1992 _ 12 6 _ rfl (K1985 _ 12 6 _ rfl q1965))
                              have t2027 := J2017.up t1966
                              have q2028 := J2017.keep t1960 (by decide) (K1992 _ 12 8 _ rfl (K1985 _ 12 8 _ rfl q1967))
                              have t2029 := J2017.up t1968
                              have q2030 := J2017.keepL t1968 (by decide) (K1992 _ 0 2 _ rfl (K1985 _ 0 2 _ rfl q1969))
                              have q2031 := J2017.keep t1960 (by decide) (K1992 _ 12 12 _ rfl (K1985 _ 12 12 _ rfl q1970))
                              have q2032 := J2017.keep t1961 (by decide) (K1992 _ 11 4 _ rfl (K1985 _ 11 4 _ rfl q1971))
                              have q2033 := J2017.keep t1961 (by decide) (K1992 _ 11 7 _ rfl (K1985 _ 11 7 _ rfl q1973))
                              have q2034 := J2017.keep t1961 (by decide) (K1992 _ 11 1 _ rfl (K1985 _ 11 1 _ rfl q1974))
                              have q2035 := J2017.keepL t1966 (by decide) (K1992 _ 0 2 _ rfl (K1985 _ 0 2 _ rfl q1975))
                              have q2036 := J2017.keep t1959 (by decide) (K1992 _ 6 8 _ rfl (K1985 _ 6 8 _ rfl q1976))
                              have q2037 := J2017.keep t1961 (by decide) (K1992 _ 11 0 _ rfl (K1985 _ 11 0 _ rfl q1977))
                              have q2038 := J2017.keep t1961 (by decide) (K1992 _ 11 2 _ rfl (K1985 _ 11 2 _ rfl q1979))
                              have q2039 := J2017.keep t1961 (by decide) (K1992 _ 11 6 _ rfl q1984)
                              have q2040 := J2017.keep t1961 (by decide) q1991
                              refine mv_goto (tgt := 100) d_TrustDesk_carryOut_85 (by decide) ?_
                              refine mv_vret d_TrustDesk_carryOut_100 rfl ?_
                              refine mv_iload_n d_TrustDesk_settle_63 rfl rfl ?_
                              exact mv_iret d_TrustDesk_settle_64 rfl (by first | rfl | decide) ⟨_, I2018, _, rfl, (Or.inl ⟨K2023, K2024⟩), Or.inr ⟨by omega, _, _, g16, q2040, by decide, K2025⟩⟩
                          · refine mv_iconst (v := 5) d_TrustDesk_failureOf_85 (by decide) ?_
                            refine mv_goto (tgt := 90) d_TrustDesk_failureOf_86 (by decide) ?_
                            refine mv_iret d_TrustDesk_failureOf_90 rfl (by first | rfl | decide) ?_
                            refine mv_istore_n (lv' := [(3, .int 5), (2, .ref a15), (0, .ref o0), (1, .int x1)]) d_TrustDesk_settle_35 rfl (by decide) rfl ?_
                            refine mv_aload_n d_TrustDesk_settle_36 rfl rfl ?_
                            refine mv_iload_n d_TrustDesk_settle_37 rfl rfl ?_
                            refine tr_putKM tm_okF I1953 t1961 (k := 6) rfl ⟨_, rfl⟩ (Or.inl (by decide)) d_TrustDesk_settle_38 p_TrustDesk_318_11 rfl rfl (fun M2041 I2042 q2043 K2044 K2044M => ?_)
                            have K2045 : ∀ (a o : Nat) (w : Value), T0 a = some (3, 3, o) → tm_at M0 a 0 2 w → tm_at M2041 a 0 2 w := fun a o w h q => K2044 _ 0 2 _ rfl (K1962 a o w h q)
                            have K2046 : ∀ (a : Nat) (w : Value), T0 a = some (0, 6, 0) → tm_at M0 a 6 8 w → tm_at M2041 a 6 8 w := fun a w h q => K2044 _ 6 8 _ rfl (K1963 a w h q)
                            have K2047 : ∀ (a : Nat) (w : Value), T0 a = some (0, 11, 0) → tm_at M0 a 11 5 w → tm_at M2041 a 11 5 w := fun a w h q => K2044 _ 11 5 _ rfl (K1964 a w h q)
                            refine mv_aload_n d_TrustDesk_settle_41 rfl rfl ?_
                            refine mv_iload_n d_TrustDesk_settle_42 rfl rfl ?_
                            refine mv_if_ne_t (tgt := 50) d_TrustDesk_settle_43 (by decide) (by decide) ?_
                            refine mv_iconst (v := 2) d_TrustDesk_settle_50 (by decide) ?_
                            refine tr_putKM tm_okF I2042 t1961 (k := 5) rfl ⟨_, rfl⟩ (Or.inl (by decide)) d_TrustDesk_settle_51 p_TrustDesk_284_11 rfl rfl (fun M2048 I2049 q2050 K2051 K2051M => ?_)
                            have K2052 : ∀ (a o : Nat) (w : Value), T0 a = some (3, 3, o) → tm_at M0 a 0 2 w → tm_at M2048 a 0 2 w := fun a o w h q => K2051 _ 0 2 _ rfl (K2045 a o w h q)
                            have K2053 : ∀ (a : Nat) (w : Value), T0 a = some (0, 6, 0) → tm_at M0 a 6 8 w → tm_at M2048 a 6 8 w := fun a w h q => K2051 _ 6 8 _ rfl (K2046 a w h q)
                            have K2054 : ∀ (a : Nat) (w : Value), T0 a = some (0, 11, 0) → a ≠ a15 → tm_at M0 a 11 5 w → tm_at M2048 a 11 5 w := fun a w h hx q => tm_at.eq (K2051M _ hx) (K2047 a w h q)
                            refine mv_iload_n d_TrustDesk_settle_54 rfl rfl ?_
                            refine mv_if_ne_t (tgt := 63) d_TrustDesk_settle_55 (by decide) (by decide) ?_
                            refine mv_iload_n d_TrustDesk_settle_63 rfl rfl ?_
                            exact mv_iret d_TrustDesk_settle_64 rfl (by first | rfl | decide) ⟨_, I2049, _, rfl, (Or.inl ⟨K2052, K2053⟩), Or.inr ⟨by omega, _, _, g16, q2050, by decide, K2054⟩⟩
                        · refine mv_iconst (v := 4) d_TrustDesk_failureOf_76 (by decide) ?_
                          refine mv_iret d_TrustDesk_failureOf_77 rfl (by first | rfl | decide) ?_
                          refine mv_istore_n (lv' := [(3, .int 4), (2, .ref a15), (0, .ref o0), (1, .int x1)]) d_TrustDesk_settle_35 rfl (by decide) rfl ?_
                          refine mv_aload_n d_TrustDesk_settle_36 rfl rfl ?_
                          refine mv_iload_n d_TrustDesk_settle_37 rfl rfl ?_
                          refine tr_putKM tm_okF I1953 t1961 (k := 6) rfl ⟨_, rfl⟩ (Or.inl (by decide)) d_TrustDesk_settle_38 p_TrustDesk_318_11 rfl rfl (fun M2055 I2056 q2057 K2058 K2058M => ?_)
                          have K2059 : ∀ (a o : Nat) (w : Value), T0 a = some (3, 3, o) → tm_at M0 a 0 2 w → tm_at M2055 a 0 2 w := fun a o w h q => K2058 _ 0 2 _ rfl (K1962 a o w h q)
                          have K2060 : ∀ (a : Nat) (w : Value), T0 a = some (0, 6, 0) → tm_at M0 a 6 8 w → tm_at M2055 a 6 8 w := fun a w h q => K2058 _ 6 8 _ rfl (K1963 a w h q)
                          have K2061 : ∀ (a : Nat) (w : Value), T0 a = some (0, 11, 0) → tm_at M0 a 11 5 w → tm_at M2055 a 11 5 w := fun a w h q => K2058 _ 11 5 _ rfl (K1964 a w h q)
                          refine mv_aload_n d_TrustDesk_settle_41 rfl rfl ?_
                          refine mv_iload_n d_TrustDesk_settle_42 rfl rfl ?_
                          refine mv_if_ne_t (tgt := 50) d_TrustDesk_settle_43 (by decide) (by decide) ?_
                          refine mv_iconst (v := 2) d_TrustDesk_settle_50 (by decide) ?_
                          refine tr_putKM tm_okF I2056 t1961 (k := 5) rfl ⟨_, rfl⟩ (Or.inl (by decide)) d_TrustDesk_settle_51 p_TrustDesk_284_11 rfl rfl (fun M2062 I2063 q2064 K2065 K2065M => ?_)
                          have K2066 : ∀ (a o : Nat) (w : Value), T0 a = some (3, 3, o) → tm_at M0 a 0 2 w → tm_at M2062 a 0 2 w := fun a o w h q => K2065 _ 0 2 _ rfl (K2059 a o w h q)
                          have K2067 : ∀ (a : Nat) (w : Value), T0 a = some (0, 6, 0) → tm_at M0 a 6 8 w → tm_at M2062 a 6 8 w := fun a w h q => K2065 _ 6 8 _ rfl (K2060 a w h q)
                          have K2068 : ∀ (a : Nat) (w : Value), T0 a = some (0, 11, 0) → a ≠ a15 → tm_at M0 a 11 5 w → tm_at M2062 a 11 5 w := fun a w h hx q => tm_at.eq (K2065M _ hx) (K2061 a w h q)
                          refine mv_iload_n d_TrustDesk_settle_54 rfl rfl ?_
                          refine mv_if_ne_t (tgt := 63) d_TrustDesk_settle_55 (by decide) (by decide) ?_
                          refine mv_iload_n d_TrustDesk_settle_63 rfl rfl ?_
                          exact mv_iret d_TrustDesk_settle_64 rfl (by first | rfl | decide) ⟨_, I2063, _, rfl, (Or.inl ⟨K2066, K2067⟩), Or.inr ⟨by omega, _, _, g16, q2064, by decide, K2068⟩⟩
                      · refine mv_iconst (v := 3) d_TrustDesk_failureOf_65 (by decide) ?_
                        refine mv_iret d_TrustDesk_failureOf_66 rfl (by first | rfl | decide) ?_
                        refine mv_istore_n (lv' := [(3, .int 3), (2, .ref a15), (0, .ref o0), (1, .int x1)]) d_TrustDesk_settle_35 rfl (by decide) rfl ?_
                        refine mv_aload_n d_TrustDesk_settle_36 rfl rfl ?_
                        refine mv_iload_n d_TrustDesk_settle_37 rfl rfl ?_
                        refine tr_putKM tm_okF I1922 t1928 (k := 6) rfl ⟨_, rfl⟩ (Or.inl (by decide)) d_TrustDesk_settle_38 p_TrustDesk_318_11 rfl rfl (fun M2069 I2070 q2071 K2072 K2072M => ?_)
                        have K2073 : ∀ (a o : Nat) (w : Value), T0 a = some (3, 3, o) → tm_at M0 a 0 2 w → tm_at M2069 a 0 2 w := fun a o w h q => K2072 _ 0 2 _ rfl (K1929 a o w h q)
                        have K2074 : ∀ (a : Nat) (w : Value), T0 a = some (0, 6, 0) → tm_at M0 a 6 8 w → tm_at M2069 a 6 8 w := fun a w h q => K2072 _ 6 8 _ rfl (K1930 a w h q)
                        have K2075 : ∀ (a : Nat) (w : Value), T0 a = some (0, 11, 0) → tm_at M0 a 11 5 w → tm_at M2069 a 11 5 w := fun a w h q => K2072 _ 11 5 _ rfl (K1931 a w h q)
                        refine mv_aload_n d_TrustDesk_settle_41 rfl rfl ?_
                        refine mv_iload_n d_TrustDesk_settle_42 rfl rfl ?_
                        refine mv_if_ne_t (tgt := 50) d_TrustDesk_settle_43 (by decide) (by decide) ?_
                        refine mv_iconst (v := 2) d_TrustDesk_settle_50 (by decide) ?_
                        refine tr_putKM tm_okF I2070 t1928 (k := 5) rfl ⟨_, rfl⟩ (Or.inl (by decide)) d_TrustDesk_settle_51 p_TrustDesk_284_11 rfl rfl (fun M2076 I2077 q2078 K2079 K2079M => ?_)
                        have K2080 : ∀ (a o : Nat) (w : Value), T0 a = some (3, 3, o) → tm_at M0 a 0 2 w → tm_at M2076 a 0 2 w := fun a o w h q => K2079 _ 0 2 _ rfl (K2073 a o w h q)
                        have K2081 : ∀ (a : Nat) (w : Value), T0 a = some (0, 6, 0) → tm_at M0 a 6 8 w → tm_at M2076 a 6 8 w := fun a w h q => K2079 _ 6 8 _ rfl (K2074 a w h q)
                        have K2082 : ∀ (a : Nat) (w : Value), T0 a = some (0, 11, 0) → a ≠ a15 → tm_at M0 a 11 5 w → tm_at M2076 a 11 5 w := fun a w h hx q => tm_at.eq (K2079M _ hx) (K2075 a w h q)
                        refine mv_iload_n d_TrustDesk_settle_54 rfl rfl ?_
                        refine mv_if_ne_t (tgt := 63) d_TrustDesk_settle_55 (by decide) (by decide) ?_
                        refine mv_iload_n d_TrustDesk_settle_63 rfl rfl ?_
                        exact mv_iret d_TrustDesk_settle_64 rfl (by first | rfl | decide) ⟨_, I2077, _, rfl, (Or.inl ⟨K2080, K2081⟩), Or.inr ⟨by omega, _, _, g16, q2078, by decide, K2082⟩⟩
                    · refine mv_iconst (v := 2) d_TrustDesk_failureOf_46 (by decide) ?_
                      refine mv_iret d_TrustDesk_failureOf_47 rfl (by first | rfl | decide) ?_
                      refine mv_istore_n (lv' := [(3, .int 2), (2, .ref a15), (0, .ref o0), (1, .int x1)]) d_TrustDesk_settle_35 rfl (by decide) rfl ?_
                      refine mv_aload_n d_TrustDesk_settle_36 rfl rfl ?_
                      refine mv_iload_n d_TrustDesk_settle_37 rfl rfl ?_
                      refine tr_putKM tm_okF I1830 t1838 (k := 6) rfl ⟨_, rfl⟩ (Or.inl (by decide)) d_TrustDesk_settle_38 p_TrustDesk_318_11 rfl rfl (fun M2083 I2084 q2085 K2086 K2086M => ?_)
                      have K2087 : ∀ (a o : Nat) (w : Value), T0 a = some (3, 3, o) → tm_at M0 a 0 2 w → tm_at M2083 a 0 2 w := fun a o w h q => K2086 _ 0 2 _ rfl (K1839 a o w h q)
                      have K2088 : ∀ (a : Nat) (w : Value), T0 a = some (0, 6, 0) → tm_at M0 a 6 8 w → tm_at M2083 a 6 8 w := fun a w h q => K2086 _ 6 8 _ rfl (K1840 a w h q)
                      have K2089 : ∀ (a : Nat) (w : Value), T0 a = some (0, 11, 0) → tm_at M0 a 11 5 w → tm_at M2083 a 11 5 w := fun a w h q => K2086 _ 11 5 _ rfl (K1841 a w h q)
                      refine mv_aload_n d_TrustDesk_settle_41 rfl rfl ?_
                      refine mv_iload_n d_TrustDesk_settle_42 rfl rfl ?_
                      refine mv_if_ne_t (tgt := 50) d_TrustDesk_settle_43 (by decide) (by decide) ?_
                      refine mv_iconst (v := 2) d_TrustDesk_settle_50 (by decide) ?_
                      refine tr_putKM tm_okF I2084 t1838 (k := 5) rfl ⟨_, rfl⟩ (Or.inl (by decide)) d_TrustDesk_settle_51 p_TrustDesk_284_11 rfl rfl (fun M2090 I2091 q2092 K2093 K2093M => ?_)
                      have K2094 : ∀ (a o : Nat) (w : Value), T0 a = some (3, 3, o) → tm_at M0 a 0 2 w → tm_at M2090 a 0 2 w := fun a o w h q => K2093 _ 0 2 _ rfl (K2087 a o w h q)
                      have K2095 : ∀ (a : Nat) (w : Value), T0 a = some (0, 6, 0) → tm_at M0 a 6 8 w → tm_at M2090 a 6 8 w := fun a w h q => K2093 _ 6 8 _ rfl (K2088 a w h q)
                      have K2096 : ∀ (a : Nat) (w : Value), T0 a = some (0, 11, 0) → a ≠ a15 → tm_at M0 a 11 5 w → tm_at M2090 a 11 5 w := fun a w h hx q => tm_at.eq (K2093M _ hx) (K2089 a w h q)
                      refine mv_iload_n d_TrustDesk_settle_54 rfl rfl ?_
                      refine mv_if_ne_t (tgt := 63) d_TrustDesk_settle_55 (by decide) (by decide) ?_
                      refine mv_iload_n d_TrustDesk_settle_63 rfl rfl ?_
                      exact mv_iret d_TrustDesk_settle_64 rfl (by first | rfl | decide) ⟨_, I2091, _, rfl, (Or.inl ⟨K2094, K2095⟩), Or.inr ⟨by omega, _, _, g16, q2092, by decide, K2096⟩⟩
              · refine mv_iconst (v := 1) d_Fund_isJoined_8 (by decide) ?_
                refine mv_goto (tgt := 13) d_Fund_isJoined_9 (by decide) ?_
                refine mv_iret d_Fund_isJoined_13 rfl (by decide) ?_
                refine mv_if_eq_f (tgt := 9) d_TrustDesk_canBe_4 (by decide) (by decide) ?_
                refine mv_iconst (v := 0) d_TrustDesk_canBe_7 (by decide) ?_
                refine mv_iret d_TrustDesk_canBe_8 rfl (by decide) ?_
                refine mv_if_ne_f (tgt := 24) d_TrustDesk_failureOf_19 (by decide) (by decide) ?_
                refine mv_iconst (v := 1) d_TrustDesk_failureOf_22 (by decide) ?_
                refine mv_iret d_TrustDesk_failureOf_23 rfl (by first | rfl | decide) ?_
                refine mv_istore_n (lv' := [(3, .int 1), (2, .ref a15), (0, .ref o0), (1, .int x1)]) d_TrustDesk_settle_35 rfl (by decide) rfl ?_
                refine mv_aload_n d_TrustDesk_settle_36 rfl rfl ?_
                refine mv_iload_n d_TrustDesk_settle_37 rfl rfl ?_
                refine tr_putKM tm_okF I0 t_a15 (k := 6) rfl ⟨_, rfl⟩ (Or.inl (by decide)) d_TrustDesk_settle_38 p_TrustDesk_318_11 rfl rfl (fun M2097 I2098 q2099 K2100 K2100M => ?_)
                have K2101 : ∀ (a o : Nat) (w : Value), T0 a = some (3, 3, o) → tm_at M0 a 0 2 w → tm_at M2097 a 0 2 w := fun a o w h q => K2100 _ 0 2 _ rfl (K0L a o w h q)
                have K2102 : ∀ (a : Nat) (w : Value), T0 a = some (0, 6, 0) → tm_at M0 a 6 8 w → tm_at M2097 a 6 8 w := fun a w h q => K2100 _ 6 8 _ rfl (K0J a w h q)
                have K2103 : ∀ (a : Nat) (w : Value), T0 a = some (0, 11, 0) → tm_at M0 a 11 5 w → tm_at M2097 a 11 5 w := fun a w h q => K2100 _ 11 5 _ rfl (K0Z a w h q)
                refine mv_aload_n d_TrustDesk_settle_41 rfl rfl ?_
                refine mv_iload_n d_TrustDesk_settle_42 rfl rfl ?_
                refine mv_if_ne_t (tgt := 50) d_TrustDesk_settle_43 (by decide) (by decide) ?_
                refine mv_iconst (v := 2) d_TrustDesk_settle_50 (by decide) ?_
                refine tr_putKM tm_okF I2098 t_a15 (k := 5) rfl ⟨_, rfl⟩ (Or.inl (by decide)) d_TrustDesk_settle_51 p_TrustDesk_284_11 rfl rfl (fun M2104 I2105 q2106 K2107 K2107M => ?_)
                have K2108 : ∀ (a o : Nat) (w : Value), T0 a = some (3, 3, o) → tm_at M0 a 0 2 w → tm_at M2104 a 0 2 w := fun a o w h q => K2107 _ 0 2 _ rfl (K2101 a o w h q)
                have K2109 : ∀ (a : Nat) (w : Value), T0 a = some (0, 6, 0) → tm_at M0 a 6 8 w → tm_at M2104 a 6 8 w := fun a w h q => K2107 _ 6 8 _ rfl (K2102 a w h q)
                have K2110 : ∀ (a : Nat) (w : Value), T0 a = some (0, 11, 0) → a ≠ a15 → tm_at M0 a 11 5 w → tm_at M2104 a 11 5 w := fun a w h hx q => tm_at.eq (K2107M _ hx) (K2103 a w h q)
                refine mv_iload_n d_TrustDesk_settle_54 rfl rfl ?_
                refine mv_if_ne_t (tgt := 63) d_TrustDesk_settle_55 (by decide) (by decide) ?_
                refine mv_iload_n d_TrustDesk_settle_63 rfl rfl ?_
                exact mv_iret d_TrustDesk_settle_64 rfl (by first | rfl | decide) ⟨_, I2105, _, rfl, (Or.inl ⟨K2108, K2109⟩), Or.inr ⟨by omega, _, _, g16, q2106, by decide, K2110⟩⟩
        · refine mv_iconst (v := (-1)) d_TrustDesk_settle_28 (by decide) ?_
          exact mv_iret d_TrustDesk_settle_29 rfl (by first | rfl | decide) ⟨_, I0, _, rfl, (Or.inl ⟨K0L, K0J⟩), Or.inl ⟨by omega, rfl⟩⟩
