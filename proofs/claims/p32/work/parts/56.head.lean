theorem d_TrustDeskLaw_law_33 : decode kY_TrustDeskLaw_law.2.1 33 = .ok (.aload_n 0, 1) := by decide +kernel
theorem d_TrustDeskLaw_law_34 : decode kY_TrustDeskLaw_law.2.1 34 = .ok (.iload 4, 2) := by decide +kernel
theorem d_TrustDeskLaw_law_36 : decode kY_TrustDeskLaw_law.2.1 36 = .ok (.iaload, 1) := by decide +kernel
theorem d_TrustDeskLaw_law_37 : decode kY_TrustDeskLaw_law.2.1 37 = .ok (.bipush 63, 2) := by decide +kernel
theorem d_TrustDeskLaw_law_39 : decode kY_TrustDeskLaw_law.2.1 39 = .ok (.iand, 1) := by decide +kernel
theorem d_TrustDeskLaw_law_40 : decode kY_TrustDeskLaw_law.2.1 40 = .ok (.tableswitch 1441 0 33 #[152, 201, 250, 323, 348, 373, 410, 447, 472, 485, 510, 547, 596, 633, 670, 735, 760, 797, 837, 862, 911, 948, 973, 1022, 1083, 1144, 1181, 1206, 1255, 1280, 1317, 1354, 1379, 1416], 152) := by decide +kernel
theorem d_TrustDeskLaw_law_23 : decode kY_TrustDeskLaw_law.2.1 23 = .ok (.iload 4, 2) := by decide +kernel
theorem d_TrustDeskLaw_law_25 : decode kY_TrustDeskLaw_law.2.1 25 = .ok (.aload_n 0, 1) := by decide +kernel
theorem d_TrustDeskLaw_law_26 : decode kY_TrustDeskLaw_law.2.1 26 = .ok (.arraylength, 1) := by decide +kernel
theorem d_TrustDeskLaw_law_27 : decode kY_TrustDeskLaw_law.2.1 27 = .ok (.bipush 6, 2) := by decide +kernel
theorem d_TrustDeskLaw_law_29 : decode kY_TrustDeskLaw_law.2.1 29 = .ok (.isub, 1) := by decide +kernel
theorem d_TrustDeskLaw_law_30 : decode kY_TrustDeskLaw_law.2.1 30 = .ok (.if_icmp .gt 1457, 3) := by decide +kernel
theorem d_TrustDeskLaw_law_1481 : decode kY_TrustDeskLaw_law.2.1 1481 = .ok (.iinc 4 6, 3) := by decide +kernel
theorem d_TrustDeskLaw_law_1484 : decode kY_TrustDeskLaw_law.2.1 1484 = .ok (.goto (-1461), 3) := by decide +kernel
theorem d_TrustDeskLaw_law_1487 : decode kY_TrustDeskLaw_law.2.1 1487 = .ok (.iconst 1, 1) := by decide +kernel
theorem d_TrustDeskLaw_law_1488 : decode kY_TrustDeskLaw_law.2.1 1488 = .ok (.ireturn, 1) := by decide +kernel
theorem lx_step {g : mj_G} {l : Launch} {d n Lf kc ks : Nat} {T : tm_H} {M : mj_M} {i t : Int32} (hlt : l.stackTraces = false) (h0 : 0 ≤ i.toInt) (hi : i.toInt + 6 ≤ (mj_L g : Int)) (hL : mj_L g ≤ 3072) (LI : lx_I T M n Lf t t) (k0 : lx_K T M n t) (kk : ∀ (T1 : tm_H) (M1 : mj_M) (n1 : Nat) (t1 : Int32), lx_I T1 M1 n1 Lf t1 t1 → lx_K T1 M1 n1 t1 → mj_V g l kY_TrustDeskLaw_law (d + 28) 1481 (lx_lv i) [] M1 n1 kc ks lx_Q) : mj_V g l kY_TrustDeskLaw_law (d + 28) 33 (lx_lv i) [] M n (kc + 1100) (ks + 14000) lx_Q := by
  have hn := mz_nat9 h0
  refine mv_aload_n d_TrustDeskLaw_law_33 rfl rfl ?_
  refine mv_iload d_TrustDeskLaw_law_34 rfl ?_
  refine mv_sld (v := mj_xs g i.toNatClampNeg) d_TrustDeskLaw_law_36 (vp_in_iff.mpr (by omega)) rfl ?_
  refine mv_bipush (v := 63) d_TrustDeskLaw_law_37 (by decide) ?_
  refine mv_iand d_TrustDeskLaw_law_39 ?_
  have hm := mz_mask63 (mj_xs g i.toNatClampNeg)
  generalize mj_xs g i.toNatClampNeg &&& 63 = w at hm ⊢
  rcases (show 33 < w.toInt ∨ w.toInt = 0 ∨ w.toInt = 1 ∨ w.toInt = 2 ∨ w.toInt = 3 ∨ w.toInt = 4 ∨ w.toInt = 5 ∨ w.toInt = 6 ∨ w.toInt = 7 ∨ w.toInt = 8 ∨ w.toInt = 9 ∨ w.toInt = 10 ∨ w.toInt = 11 ∨ w.toInt = 12 ∨ w.toInt = 13 ∨ w.toInt = 14 ∨ w.toInt = 15 ∨ w.toInt = 16 ∨ w.toInt = 17 ∨ w.toInt = 18 ∨ w.toInt = 19 ∨ w.toInt = 20 ∨ w.toInt = 21 ∨ w.toInt = 22 ∨ w.toInt = 23 ∨ w.toInt = 24 ∨ w.toInt = 25 ∨ w.toInt = 26 ∨ w.toInt = 27 ∨ w.toInt = 28 ∨ w.toInt = 29 ∨ w.toInt = 30 ∨ w.toInt = 31 ∨ w.toInt = 32 ∨ w.toInt = 33 by omega) with h | h | h | h | h | h | h | h | h | h | h | h | h | h | h | h | h | h | h | h | h | h | h | h | h | h | h | h | h | h | h | h | h | h | h
  · exact mv_tableOut (tgt := 1481) d_TrustDeskLaw_law_40 (Or.inr h) (by decide) (mv_less (by omega) (by omega) (kk _ _ _ _ LI k0))
  · exact mv_tableIn (tgt := 192) (off := 152) d_TrustDeskLaw_law_40 (by omega) (by omega) (by rw [h]; rfl) (by decide) (lx_case_0 hlt h0 hi hL LI k0 kk)
  · exact mv_tableIn (tgt := 241) (off := 201) d_TrustDeskLaw_law_40 (by omega) (by omega) (by rw [h]; rfl) (by decide) (lx_case_1 hlt h0 hi hL LI k0 kk)
  · exact mv_tableIn (tgt := 290) (off := 250) d_TrustDeskLaw_law_40 (by omega) (by omega) (by rw [h]; rfl) (by decide) (lx_case_2 hlt h0 hi hL LI k0 kk)
  · exact mv_tableIn (tgt := 363) (off := 323) d_TrustDeskLaw_law_40 (by omega) (by omega) (by rw [h]; rfl) (by decide) (lx_case_3 hlt h0 hi hL LI k0 kk)
  · exact mv_tableIn (tgt := 388) (off := 348) d_TrustDeskLaw_law_40 (by omega) (by omega) (by rw [h]; rfl) (by decide) (lx_case_4 hlt h0 hi hL LI k0 kk)
  · exact mv_tableIn (tgt := 413) (off := 373) d_TrustDeskLaw_law_40 (by omega) (by omega) (by rw [h]; rfl) (by decide) (lx_case_5 hlt h0 hi hL LI k0 kk)
  · exact mv_tableIn (tgt := 450) (off := 410) d_TrustDeskLaw_law_40 (by omega) (by omega) (by rw [h]; rfl) (by decide) (lx_case_6 hlt h0 hi hL LI k0 kk)
  · exact mv_tableIn (tgt := 487) (off := 447) d_TrustDeskLaw_law_40 (by omega) (by omega) (by rw [h]; rfl) (by decide) (lx_case_7 hlt h0 hi hL LI k0 kk)
  · exact mv_tableIn (tgt := 512) (off := 472) d_TrustDeskLaw_law_40 (by omega) (by omega) (by rw [h]; rfl) (by decide) (lx_case_8 hlt h0 hi hL LI k0 kk)
  · exact mv_tableIn (tgt := 525) (off := 485) d_TrustDeskLaw_law_40 (by omega) (by omega) (by rw [h]; rfl) (by decide) (lx_case_9 hlt h0 hi hL LI k0 kk)
  · exact mv_tableIn (tgt := 550) (off := 510) d_TrustDeskLaw_law_40 (by omega) (by omega) (by rw [h]; rfl) (by decide) (lx_case_10 hlt h0 hi hL LI k0 kk)
  · exact mv_tableIn (tgt := 587) (off := 547) d_TrustDeskLaw_law_40 (by omega) (by omega) (by rw [h]; rfl) (by decide) (lx_case_11 hlt h0 hi hL LI k0 kk)
  · exact mv_tableIn (tgt := 636) (off := 596) d_TrustDeskLaw_law_40 (by omega) (by omega) (by rw [h]; rfl) (by decide) (lx_case_12 hlt h0 hi hL LI k0 kk)
  · exact mv_tableIn (tgt := 673) (off := 633) d_TrustDeskLaw_law_40 (by omega) (by omega) (by rw [h]; rfl) (by decide) (lx_case_13 hlt h0 hi hL LI k0 kk)
  · exact mv_tableIn (tgt := 710) (off := 670) d_TrustDeskLaw_law_40 (by omega) (by omega) (by rw [h]; rfl) (by decide) (lx_case_14 hlt h0 hi hL LI k0 kk)
  · exact mv_tableIn (tgt := 775) (off := 735) d_TrustDeskLaw_law_40 (by omega) (by omega) (by rw [h]; rfl) (by decide) (lx_case_15 hlt h0 hi hL LI k0 kk)
  · exact mv_tableIn (tgt := 800) (off := 760) d_TrustDeskLaw_law_40 (by omega) (by omega) (by rw [h]; rfl) (by decide) (lx_case_16 hlt h0 hi hL LI k0 kk)
  · exact mv_tableIn (tgt := 837) (off := 797) d_TrustDeskLaw_law_40 (by omega) (by omega) (by rw [h]; rfl) (by decide) (lx_case_17 hlt h0 hi hL LI k0 kk)
  · exact mv_tableIn (tgt := 877) (off := 837) d_TrustDeskLaw_law_40 (by omega) (by omega) (by rw [h]; rfl) (by decide) (lx_case_18 hlt h0 hi hL LI k0 kk)
  · exact mv_tableIn (tgt := 902) (off := 862) d_TrustDeskLaw_law_40 (by omega) (by omega) (by rw [h]; rfl) (by decide) (lx_case_19 hlt h0 hi hL LI k0 kk)
  · exact mv_tableIn (tgt := 951) (off := 911) d_TrustDeskLaw_law_40 (by omega) (by omega) (by rw [h]; rfl) (by decide) (lx_case_20 hlt h0 hi hL LI k0 kk)
  · exact mv_tableIn (tgt := 988) (off := 948) d_TrustDeskLaw_law_40 (by omega) (by omega) (by rw [h]; rfl) (by decide) (lx_case_21 hlt h0 hi hL LI k0 kk)
  · exact mv_tableIn (tgt := 1013) (off := 973) d_TrustDeskLaw_law_40 (by omega) (by omega) (by rw [h]; rfl) (by decide) (lx_case_22 hlt h0 hi hL LI k0 kk)
  · exact mv_tableIn (tgt := 1062) (off := 1022) d_TrustDeskLaw_law_40 (by omega) (by omega) (by rw [h]; rfl) (by decide) (lx_case_23 hlt h0 hi hL LI k0 kk)
  · exact mv_tableIn (tgt := 1123) (off := 1083) d_TrustDeskLaw_law_40 (by omega) (by omega) (by rw [h]; rfl) (by decide) (lx_case_24 hlt h0 hi hL LI k0 kk)
  · exact mv_tableIn (tgt := 1184) (off := 1144) d_TrustDeskLaw_law_40 (by omega) (by omega) (by rw [h]; rfl) (by decide) (lx_case_25 hlt h0 hi hL LI k0 kk)
  · exact mv_tableIn (tgt := 1221) (off := 1181) d_TrustDeskLaw_law_40 (by omega) (by omega) (by rw [h]; rfl) (by decide) (lx_case_26 hlt h0 hi hL LI k0 kk)
  · exact mv_tableIn (tgt := 1246) (off := 1206) d_TrustDeskLaw_law_40 (by omega) (by omega) (by rw [h]; rfl) (by decide) (lx_case_27 hlt h0 hi hL LI k0 kk)
  · exact mv_tableIn (tgt := 1295) (off := 1255) d_TrustDeskLaw_law_40 (by omega) (by omega) (by rw [h]; rfl) (by decide) (lx_case_28 hlt h0 hi hL LI k0 kk)
  · exact mv_tableIn (tgt := 1320) (off := 1280) d_TrustDeskLaw_law_40 (by omega) (by omega) (by rw [h]; rfl) (by decide) (lx_case_29 hlt h0 hi hL LI k0 kk)
  · exact mv_tableIn (tgt := 1357) (off := 1317) d_TrustDeskLaw_law_40 (by omega) (by omega) (by rw [h]; rfl) (by decide) (lx_case_30 hlt h0 hi hL LI k0 kk)
  · exact mv_tableIn (tgt := 1394) (off := 1354) d_TrustDeskLaw_law_40 (by omega) (by omega) (by rw [h]; rfl) (by decide) (lx_case_31 hlt h0 hi hL LI k0 kk)
  · exact mv_tableIn (tgt := 1419) (off := 1379) d_TrustDeskLaw_law_40 (by omega) (by omega) (by rw [h]; rfl) (by decide) (lx_case_32 hlt h0 hi hL LI k0 kk)
  · exact mv_tableIn (tgt := 1456) (off := 1416) d_TrustDeskLaw_law_40 (by omega) (by omega) (by rw [h]; rfl) (by decide) (lx_case_33 hlt h0 hi hL LI k0 kk)
theorem lx_out {g : mj_G} {l : Launch} {d n kc ks : Nat} {M : mj_M} {i : Int32} : mj_V g l kY_TrustDeskLaw_law (d + 28) 1487 (lx_lv i) [] M n kc ks lx_Q := by
  refine mv_iconst (v := 1) d_TrustDeskLaw_law_1487 (by decide) ?_
  exact mv_iret d_TrustDeskLaw_law_1488 rfl (by first | rfl | decide) rfl
/-- the loop: k calls at most are left -/
theorem lx_loop {g : mj_G} {l : Launch} {d Lf : Nat} (hlt : l.stackTraces = false) (hL : mj_L g ≤ 3072) : ∀ (k : Nat) (i t : Int32) (T : tm_H) (M : mj_M) (n : Nat), lx_I T M n Lf t t → lx_K T M n t → 0 ≤ i.toInt → (mj_L g : Int) - i.toInt < 6 * (k : Int) + 6 → mj_V g l kY_TrustDeskLaw_law (d + 28) 23 (lx_lv i) [] M n (k * 1100) (k * 14000) lx_Q := by
  intro k
  have hn : (nI (mj_L g)).toInt = (mj_L g : Int) := nI_toInt (by omega)
  have hb : (nI (mj_L g) - 6 : Int32).toInt = (mj_L g : Int) - 6 := mz_sub2 hn (by decide) (by omega) (by omega)
  induction k with
  | zero =>
    intro i t T M n LI k0 h0 hk
    refine mv_iload d_TrustDeskLaw_law_23 rfl ?_
    refine mv_aload_n d_TrustDeskLaw_law_25 rfl rfl ?_
    refine mv_slen (v := nI (mj_L g)) d_TrustDeskLaw_law_26 rfl ?_
    refine mv_bipush (v := 6) d_TrustDeskLaw_law_27 (by decide) ?_
    refine mv_isub d_TrustDeskLaw_law_29 ?_
    refine mv_icmp_gtZ (tgt := 1487) (a := i.toInt) (b := (mj_L g : Int) - 6) d_TrustDeskLaw_law_30 (by decide) rfl hb (fun b1 => lx_out) (fun b1 => ?_)
    exfalso
    omega
  | succ k ih =>
    intro i t T M n LI k0 h0 hk
    refine mv_iload d_TrustDeskLaw_law_23 rfl ?_
    refine mv_aload_n d_TrustDeskLaw_law_25 rfl rfl ?_
    refine mv_slen (v := nI (mj_L g)) d_TrustDeskLaw_law_26 rfl ?_
    refine mv_bipush (v := 6) d_TrustDeskLaw_law_27 (by decide) ?_
    refine mv_isub d_TrustDeskLaw_law_29 ?_
    refine mv_icmp_gtZ (tgt := 1487) (a := i.toInt) (b := (mj_L g : Int) - 6) d_TrustDeskLaw_law_30 (by decide) rfl hb (fun b1 => lx_out) (fun b1 => ?_)
    rw [show (k + 1) * 1100 = k * 1100 + 1100 from by omega, show (k + 1) * 14000 = k * 14000 + 14000 from by omega]
    refine lx_step hlt h0 (by omega) hL LI k0 (fun T1 M1 n1 t1 L1 k1 => ?_)
    have h6 : (i + 6 : Int32).toInt = i.toInt + 6 := mz_addn 6 6 (by decide) (by omega) (by omega)
    refine mv_iinc (v := i + 6) (lv' := lx_lv (i + 6)) d_TrustDeskLaw_law_1481 rfl rfl (by decide) rfl ?_
    refine mv_goto (tgt := 23) d_TrustDeskLaw_law_1484 (by decide) ?_
    exact ih (i + 6) t1 T1 M1 n1 L1 k1 (by omega) (by omega)
