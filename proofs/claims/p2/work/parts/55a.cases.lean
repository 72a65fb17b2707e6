abbrev kY_TrustDeskLaw_law : mj_Y := (x, code, 7, some .boolean)
abbrev lx_lv (i : Int32) : List (Nat × Value) := [(4, .int i), (3, .ref 148), (2, .ref 99), (1, .ref 64), (0, .ref 50)]
abbrev lx_Q : Option Value → mj_M → Nat → Prop := fun r _ _ => r = some (.int 1)
theorem lx_ld {g : mj_G} {l : Launch} {d pc k : Nat} {i : Int32} {st : List Value} {M : mj_M} {n kc ks : Nat} {Q : Option Value → mj_M → Nat → Prop} {c : Int32} (h0 : 0 ≤ i.toInt) (hi : i.toInt + 6 ≤ (mj_L g : Int)) (hL : mj_L g ≤ 3072) (hc : c.toInt = (k : Int)) (hk : k ≤ 5)
    (d0 : decode kY_TrustDeskLaw_law.2.1 pc = .ok (.aload_n 0, 1)) (d1 : decode kY_TrustDeskLaw_law.2.1 (pc + 1) = .ok (.iload 4, 2)) (d2 : ∀ {st9 : List Value}, mj_V g l kY_TrustDeskLaw_law d (pc + 4) (lx_lv i) (.int c :: st9) M n kc ks Q → mj_V g l kY_TrustDeskLaw_law d (pc + 3) (lx_lv i) st9 M n kc ks Q) (d3 : decode kY_TrustDeskLaw_law.2.1 (pc + 4) = .ok (.iadd, 1)) (d4 : decode kY_TrustDeskLaw_law.2.1 (pc + 5) = .ok (.iaload, 1)) (kk : mj_V g l kY_TrustDeskLaw_law d (pc + 6) (lx_lv i) (.int (mj_xs g (i.toNatClampNeg + k)) :: st) M n kc ks Q) : mj_V g l kY_TrustDeskLaw_law d pc (lx_lv i) st M n kc ks Q := by
  have h1 := mz_nat9 h0
  have h2 : (i + c).toInt = i.toInt + k := mz_addn c k hc (by omega) (by omega)
  have h3 : (i + c).toNatClampNeg = i.toNatClampNeg + k := by
    have := mz_nat9 (i := i + c) (by omega)
    omega
  refine mv_aload_n d0 rfl rfl ?_
  refine mv_iload d1 rfl ?_
  refine d2 ?_
  refine mv_iadd d3 ?_
  exact mv_sld d4 (vp_in_iff.mpr (by omega)) (by rw [h3]) kk
theorem d_TrustDeskLaw_law_192 : decode kY_TrustDeskLaw_law.2.1 192 = .ok (.aload_n 1, 1) := by decide +kernel
theorem d_TrustDeskLaw_law_193 : decode kY_TrustDeskLaw_law.2.1 193 = .ok (.aload_n 0, 1) := by decide +kernel
theorem d_TrustDeskLaw_law_194 : decode kY_TrustDeskLaw_law.2.1 194 = .ok (.iload 4, 2) := by decide +kernel
theorem d_TrustDeskLaw_law_196 : decode kY_TrustDeskLaw_law.2.1 196 = .ok (.iconst 1, 1) := by decide +kernel
theorem d_TrustDeskLaw_law_197 : decode kY_TrustDeskLaw_law.2.1 197 = .ok (.iadd, 1) := by decide +kernel
theorem d_TrustDeskLaw_law_198 : decode kY_TrustDeskLaw_law.2.1 198 = .ok (.iaload, 1) := by decide +kernel
theorem d_TrustDeskLaw_law_199 : decode kY_TrustDeskLaw_law.2.1 199 = .ok (.aload_n 0, 1) := by decide +kernel
theorem d_TrustDeskLaw_law_200 : decode kY_TrustDeskLaw_law.2.1 200 = .ok (.iload 4, 2) := by decide +kernel
theorem d_TrustDeskLaw_law_202 : decode kY_TrustDeskLaw_law.2.1 202 = .ok (.iconst 2, 1) := by decide +kernel
theorem d_TrustDeskLaw_law_203 : decode kY_TrustDeskLaw_law.2.1 203 = .ok (.iadd, 1) := by decide +kernel
theorem d_TrustDeskLaw_law_204 : decode kY_TrustDeskLaw_law.2.1 204 = .ok (.iaload, 1) := by decide +kernel
theorem d_TrustDeskLaw_law_205 : decode kY_TrustDeskLaw_law.2.1 205 = .ok (.aload_n 0, 1) := by decide +kernel
theorem d_TrustDeskLaw_law_206 : decode kY_TrustDeskLaw_law.2.1 206 = .ok (.iload 4, 2) := by decide +kernel
theorem d_TrustDeskLaw_law_208 : decode kY_TrustDeskLaw_law.2.1 208 = .ok (.iconst 3, 1) := by decide +kernel
theorem d_TrustDeskLaw_law_209 : decode kY_TrustDeskLaw_law.2.1 209 = .ok (.iadd, 1) := by decide +kernel
theorem d_TrustDeskLaw_law_210 : decode kY_TrustDeskLaw_law.2.1 210 = .ok (.iaload, 1) := by decide +kernel
theorem d_TrustDeskLaw_law_211 : decode kY_TrustDeskLaw_law.2.1 211 = .ok (.invokevirtual 19, 3) := by decide +kernel
theorem lV_TrustDeskLaw_19 : mj_lV "TrustDeskLaw" 19 kY_TrustDesk_fact 3 := ⟨⟨(mj_in1 (List.mem_of_getElem? (i := 307) (by decide +kernel)) rfl), (mj_in1 (List.mem_of_getElem? (i := 1) (by decide +kernel)) rfl), (mj_in1 (List.mem_of_getElem? (i := 310) (by decide +kernel)) rfl), by decide, rfl, by decide⟩, (mj_in1 (List.mem_of_getElem? (i := 308) (by decide +kernel)) rfl), (mj_in1 (List.mem_of_getElem? (i := 309) (by decide +kernel)) rfl)⟩
theorem d_TrustDeskLaw_law_214 : decode kY_TrustDeskLaw_law.2.1 214 = .ok (.aload_n 2, 1) := by decide +kernel
theorem d_TrustDeskLaw_law_215 : decode kY_TrustDeskLaw_law.2.1 215 = .ok (.aload_n 0, 1) := by decide +kernel
theorem d_TrustDeskLaw_law_216 : decode kY_TrustDeskLaw_law.2.1 216 = .ok (.iload 4, 2) := by decide +kernel
theorem d_TrustDeskLaw_law_218 : decode kY_TrustDeskLaw_law.2.1 218 = .ok (.iconst 1, 1) := by decide +kernel
theorem d_TrustDeskLaw_law_219 : decode kY_TrustDeskLaw_law.2.1 219 = .ok (.iadd, 1) := by decide +kernel
theorem d_TrustDeskLaw_law_220 : decode kY_TrustDeskLaw_law.2.1 220 = .ok (.iaload, 1) := by decide +kernel
theorem d_TrustDeskLaw_law_221 : decode kY_TrustDeskLaw_law.2.1 221 = .ok (.aload_n 0, 1) := by decide +kernel
theorem d_TrustDeskLaw_law_222 : decode kY_TrustDeskLaw_law.2.1 222 = .ok (.iload 4, 2) := by decide +kernel
theorem d_TrustDeskLaw_law_224 : decode kY_TrustDeskLaw_law.2.1 224 = .ok (.iconst 2, 1) := by decide +kernel
theorem d_TrustDeskLaw_law_225 : decode kY_TrustDeskLaw_law.2.1 225 = .ok (.iadd, 1) := by decide +kernel
theorem d_TrustDeskLaw_law_226 : decode kY_TrustDeskLaw_law.2.1 226 = .ok (.iaload, 1) := by decide +kernel
theorem d_TrustDeskLaw_law_227 : decode kY_TrustDeskLaw_law.2.1 227 = .ok (.aload_n 0, 1) := by decide +kernel
theorem d_TrustDeskLaw_law_228 : decode kY_TrustDeskLaw_law.2.1 228 = .ok (.iload 4, 2) := by decide +kernel
theorem d_TrustDeskLaw_law_230 : decode kY_TrustDeskLaw_law.2.1 230 = .ok (.iconst 3, 1) := by decide +kernel
theorem d_TrustDeskLaw_law_231 : decode kY_TrustDeskLaw_law.2.1 231 = .ok (.iadd, 1) := by decide +kernel
theorem d_TrustDeskLaw_law_232 : decode kY_TrustDeskLaw_law.2.1 232 = .ok (.iaload, 1) := by decide +kernel
theorem d_TrustDeskLaw_law_233 : decode kY_TrustDeskLaw_law.2.1 233 = .ok (.invokevirtual 23, 3) := by decide +kernel
theorem lV_TrustDeskLaw_23 : mj_lV "TrustDeskLaw" 23 kY_TrustDeskModel_fact 3 := ⟨⟨(mj_in1 (List.mem_of_getElem? (i := 1603) (by decide +kernel)) rfl), (mj_in1 (List.mem_of_getElem? (i := 10) (by decide +kernel)) rfl), (mj_in1 (List.mem_of_getElem? (i := 1606) (by decide +kernel)) rfl), by decide, rfl, by decide⟩, (mj_in1 (List.mem_of_getElem? (i := 1604) (by decide +kernel)) rfl), (mj_in1 (List.mem_of_getElem? (i := 1605) (by decide +kernel)) rfl)⟩
theorem d_TrustDeskLaw_law_236 : decode kY_TrustDeskLaw_law.2.1 236 = .ok (.if_icmp .eq 1245, 3) := by decide +kernel
set_option maxHeartbeats 4000000 in
theorem lx_case_0 {g : mj_G} {l : Launch} {d n Lf kc ks : Nat} {T : tm_H} {M : mj_M} {i t : Int32} (hlt : l.stackTraces = false) (h0 : 0 ≤ i.toInt) (hi : i.toInt + 6 ≤ (mj_L g : Int)) (hL : mj_L g ≤ 3072) (LI : lx_I T M n Lf t t) (k0 : lx_K T M n t) (kk : ∀ (T1 : tm_H) (M1 : mj_M) (n1 : Nat) (t1 : Int32), lx_I T1 M1 n1 Lf t1 t1 → lx_K T1 M1 n1 t1 → mj_V g l kY_TrustDeskLaw_law (d + 28) 1481 (lx_lv i) [] M1 n1 kc ks lx_Q) : mj_V g l kY_TrustDeskLaw_law (d + 28) 192 (lx_lv i) [] M n (kc + 1100) (ks + 14000) lx_Q := by
  refine mv_aload_n d_TrustDeskLaw_law_192 rfl rfl ?_
  refine lx_ld (k := 1) (c := 1) h0 hi hL (by decide) (by decide) d_TrustDeskLaw_law_193 d_TrustDeskLaw_law_194 (mv_iconst d_TrustDeskLaw_law_196 (by decide)) d_TrustDeskLaw_law_197 d_TrustDeskLaw_law_198 ?_
  refine lx_ld (k := 2) (c := 2) h0 hi hL (by decide) (by decide) d_TrustDeskLaw_law_199 d_TrustDeskLaw_law_200 (mv_iconst d_TrustDeskLaw_law_202 (by decide)) d_TrustDeskLaw_law_203 d_TrustDeskLaw_law_204 ?_
  refine lx_ld (k := 3) (c := 3) h0 hi hL (by decide) (by decide) d_TrustDeskLaw_law_205 d_TrustDeskLaw_law_206 (mv_iconst d_TrustDeskLaw_law_208 (by decide)) d_TrustDeskLaw_law_209 d_TrustDeskLaw_law_210 ?_
  obtain ⟨_, b2, -⟩ := LI.1.1 _ _ LI.2.1
  obtain ⟨F, c, hF, qF, yc, ym, hc0, hc1⟩ := k0
  refine mv_callV (kc' := kc + 1100) (ks' := ks + 14000) (As := [.int (mj_xs g (i.toNatClampNeg + 1)), .int (mj_xs g (i.toNatClampNeg + 2)), .int (mj_xs g (i.toNatClampNeg + 3))]) (st9 := [.int (mj_xs g (i.toNatClampNeg + 3)), .int (mj_xs g (i.toNatClampNeg + 2)), .int (mj_xs g (i.toNatClampNeg + 1)), .ref 64]) d_TrustDeskLaw_law_211 lV_TrustDeskLaw_19 b2 rfl (tc_TrustDesk_fact_x (d := d + 26) (x9 := 0) (o0 := 64) (x1 := (mj_xs g (i.toNatClampNeg + 1))) (x2 := (mj_xs g (i.toNatClampNeg + 2))) (x3 := (mj_xs g (i.toNatClampNeg + 3))) LI.2.1 hF qF yc ⟨hc0, hc1⟩ LI.1.start) rfl (Nat.le_of_ble_eq_true rfl) (by omega) (by omega) (hst := rfl) (fun r3 M4 n5 h6 => ?_)
  obtain ⟨T7, J8, v9, rfl, -, -, q11⟩ := h6
  have LI10 := LI.desk J8 (lx_ok (by decide))
  refine mv_aload_n d_TrustDeskLaw_law_214 rfl rfl ?_
  refine lx_ld (k := 1) (c := 1) h0 hi hL (by decide) (by decide) d_TrustDeskLaw_law_215 d_TrustDeskLaw_law_216 (mv_iconst d_TrustDeskLaw_law_218 (by decide)) d_TrustDeskLaw_law_219 d_TrustDeskLaw_law_220 ?_
  refine lx_ld (k := 2) (c := 2) h0 hi hL (by decide) (by decide) d_TrustDeskLaw_law_221 d_TrustDeskLaw_law_222 (mv_iconst d_TrustDeskLaw_law_224 (by decide)) d_TrustDeskLaw_law_225 d_TrustDeskLaw_law_226 ?_
  refine lx_ld (k := 3) (c := 3) h0 hi hL (by decide) (by decide) d_TrustDeskLaw_law_227 d_TrustDeskLaw_law_228 (mv_iconst d_TrustDeskLaw_law_230 (by decide)) d_TrustDeskLaw_law_231 d_TrustDeskLaw_law_232 ?_
  obtain ⟨_, b13, -⟩ := LI10.1.1 _ _ LI10.2.2.1
  refine mv_callV (kc' := kc + 1100) (ks' := ks + 14000) (As := [.int (mj_xs g (i.toNatClampNeg + 1)), .int (mj_xs g (i.toNatClampNeg + 2)), .int (mj_xs g (i.toNatClampNeg + 3))]) (st9 := [.int (mj_xs g (i.toNatClampNeg + 3)), .int (mj_xs g (i.toNatClampNeg + 2)), .int (mj_xs g (i.toNatClampNeg + 1)), .ref 99, .int v9]) d_TrustDeskLaw_law_233 lV_TrustDeskLaw_23 b13 rfl (tc_TrustDeskModel_fact_y (d := d + 26) (x9 := 0) (o0 := 99) (x1 := (mj_xs g (i.toNatClampNeg + 1))) (x2 := (mj_xs g (i.toNatClampNeg + 2))) (x3 := (mj_xs g (i.toNatClampNeg + 3))) LI10.2.2.1 LI10.2.2.2.2.2.2.2.2.2.1 (J8.keep LI.2.2.1 rfl ym) LI10.1.start) rfl (Nat.le_of_ble_eq_true rfl) (by omega) (by omega) (hst := rfl) (fun r14 M15 n16 h17 => ?_)
  obtain ⟨T18, J19, v20, rfl, -, -, R23, f22⟩ := h17
  have LI21 := LI10.ref J19 (lx_ok (by decide)) (J19.keep LI10.2.2.1 rfl LI10.2.2.2.2.2.2.2.1) R23 (LI10.2.2.2.2.2.2.2.2.2.2.1.same (sA_c LI10.1 J19 LI10.2.2.1 (by decide +kernel)) (sF_c LI10.1 J19 LI10.2.2.1 (by decide +kernel))) (LI10.2.2.2.2.2.2.2.2.2.2.2.1.same (sA_c LI10.1 J19 LI10.2.2.1 (by decide +kernel)) (sF_c LI10.1 J19 LI10.2.2.1 (by decide +kernel))) (LI10.2.2.2.2.2.2.2.2.2.2.2.2.1.same (sA_c LI10.1 J19 LI10.2.2.1 (by decide +kernel)) (sF_c LI10.1 J19 LI10.2.2.1 (by decide +kernel))) (LI10.2.2.2.2.2.2.2.2.2.2.2.2.2.same (sA_c LI10.1 J19 LI10.2.2.1 (by decide +kernel)) (sF_c LI10.1 J19 LI10.2.2.1 (by decide +kernel)))
  refine mv_icmp_eqZ (tgt := 1481) (a := v9.toInt) (b := v20.toInt) d_TrustDeskLaw_law_236 (by decide) rfl rfl (fun b24 => ?_) (fun b24 => ?_)
  · rcases q11 with ⟨e1, c1, q1⟩ | ⟨e1, c1, q1⟩
    · rcases f22 with ⟨e2, c2, q2⟩ | ⟨e2, c2, q2⟩
      · exact mv_less (by omega) (by omega) (kk _ _ _ _ LI21 ⟨F, _, J19.up (J8.up hF), J19.keep (J8.up LI.2.1) rfl (J8.keep LI.2.1 rfl qF), J19.keep (J8.up hF) rfl q1, q2, ⟨hc0, hc1⟩⟩)
      · exact absurd c2 c1
    · rcases f22 with ⟨e2, c2, q2⟩ | ⟨e2, c2, q2⟩
      · exact absurd c1 c2
      · exact mv_less (by omega) (by omega) (kk _ _ _ _ LI21 ⟨F, _, J19.up (J8.up hF), J19.keep (J8.up LI.2.1) rfl (J8.keep LI.2.1 rfl qF), J19.keep (J8.up hF) rfl q1, q2, (by have h7 : (c + 1 : Int32).toInt = c.toInt + 1 := mz_addn 1 1 (by decide) (by omega) (by omega); omega)⟩)
  · exfalso
    apply b24
    rcases q11 with ⟨rfl, c1, q1⟩ | ⟨rfl, c1, q1⟩ <;> rcases f22 with ⟨rfl, c2, q2⟩ | ⟨rfl, c2, q2⟩ <;> first | rfl | exact absurd c1 c2 | exact absurd c2 c1
theorem d_TrustDeskLaw_law_241 : decode kY_TrustDeskLaw_law.2.1 241 = .ok (.aload_n 1, 1) := by decide +kernel
theorem d_TrustDeskLaw_law_242 : decode kY_TrustDeskLaw_law.2.1 242 = .ok (.aload_n 0, 1) := by decide +kernel
theorem d_TrustDeskLaw_law_243 : decode kY_TrustDeskLaw_law.2.1 243 = .ok (.iload 4, 2) := by decide +kernel
theorem d_TrustDeskLaw_law_245 : decode kY_TrustDeskLaw_law.2.1 245 = .ok (.iconst 1, 1) := by decide +kernel
theorem d_TrustDeskLaw_law_246 : decode kY_TrustDeskLaw_law.2.1 246 = .ok (.iadd, 1) := by decide +kernel
theorem d_TrustDeskLaw_law_247 : decode kY_TrustDeskLaw_law.2.1 247 = .ok (.iaload, 1) := by decide +kernel
theorem d_TrustDeskLaw_law_248 : decode kY_TrustDeskLaw_law.2.1 248 = .ok (.aload_n 0, 1) := by decide +kernel
theorem d_TrustDeskLaw_law_249 : decode kY_TrustDeskLaw_law.2.1 249 = .ok (.iload 4, 2) := by decide +kernel
theorem d_TrustDeskLaw_law_251 : decode kY_TrustDeskLaw_law.2.1 251 = .ok (.iconst 2, 1) := by decide +kernel
theorem d_TrustDeskLaw_law_252 : decode kY_TrustDeskLaw_law.2.1 252 = .ok (.iadd, 1) := by decide +kernel
theorem d_TrustDeskLaw_law_253 : decode kY_TrustDeskLaw_law.2.1 253 = .ok (.iaload, 1) := by decide +kernel
theorem d_TrustDeskLaw_law_254 : decode kY_TrustDeskLaw_law.2.1 254 = .ok (.aload_n 0, 1) := by decide +kernel
theorem d_TrustDeskLaw_law_255 : decode kY_TrustDeskLaw_law.2.1 255 = .ok (.iload 4, 2) := by decide +kernel
theorem d_TrustDeskLaw_law_257 : decode kY_TrustDeskLaw_law.2.1 257 = .ok (.iconst 3, 1) := by decide +kernel
theorem d_TrustDeskLaw_law_258 : decode kY_TrustDeskLaw_law.2.1 258 = .ok (.iadd, 1) := by decide +kernel
theorem d_TrustDeskLaw_law_259 : decode kY_TrustDeskLaw_law.2.1 259 = .ok (.iaload, 1) := by decide +kernel
theorem d_TrustDeskLaw_law_260 : decode kY_TrustDeskLaw_law.2.1 260 = .ok (.invokevirtual 24, 3) := by decide +kernel
theorem lV_TrustDeskLaw_24 : mj_lV "TrustDeskLaw" 24 kY_TrustDesk_factOf 3 := ⟨⟨(mj_in1 (List.mem_of_getElem? (i := 321) (by decide +kernel)) rfl), (mj_in1 (List.mem_of_getElem? (i := 1) (by decide +kernel)) rfl), (mj_in1 (List.mem_of_getElem? (i := 324) (by decide +kernel)) rfl), by decide, rfl, by decide⟩, (mj_in1 (List.mem_of_getElem? (i := 322) (by decide +kernel)) rfl), (mj_in1 (List.mem_of_getElem? (i := 323) (by decide +kernel)) rfl)⟩
theorem d_TrustDeskLaw_law_263 : decode kY_TrustDeskLaw_law.2.1 263 = .ok (.pop, 1) := by decide +kernel
theorem d_TrustDeskLaw_law_264 : decode kY_TrustDeskLaw_law.2.1 264 = .ok (.aload_n 2, 1) := by decide +kernel
theorem d_TrustDeskLaw_law_265 : decode kY_TrustDeskLaw_law.2.1 265 = .ok (.aload_n 0, 1) := by decide +kernel
theorem d_TrustDeskLaw_law_266 : decode kY_TrustDeskLaw_law.2.1 266 = .ok (.iload 4, 2) := by decide +kernel
theorem d_TrustDeskLaw_law_268 : decode kY_TrustDeskLaw_law.2.1 268 = .ok (.iconst 1, 1) := by decide +kernel
theorem d_TrustDeskLaw_law_269 : decode kY_TrustDeskLaw_law.2.1 269 = .ok (.iadd, 1) := by decide +kernel
theorem d_TrustDeskLaw_law_270 : decode kY_TrustDeskLaw_law.2.1 270 = .ok (.iaload, 1) := by decide +kernel
theorem d_TrustDeskLaw_law_271 : decode kY_TrustDeskLaw_law.2.1 271 = .ok (.aload_n 0, 1) := by decide +kernel
theorem d_TrustDeskLaw_law_272 : decode kY_TrustDeskLaw_law.2.1 272 = .ok (.iload 4, 2) := by decide +kernel
theorem d_TrustDeskLaw_law_274 : decode kY_TrustDeskLaw_law.2.1 274 = .ok (.iconst 2, 1) := by decide +kernel
theorem d_TrustDeskLaw_law_275 : decode kY_TrustDeskLaw_law.2.1 275 = .ok (.iadd, 1) := by decide +kernel
theorem d_TrustDeskLaw_law_276 : decode kY_TrustDeskLaw_law.2.1 276 = .ok (.iaload, 1) := by decide +kernel
theorem d_TrustDeskLaw_law_277 : decode kY_TrustDeskLaw_law.2.1 277 = .ok (.aload_n 0, 1) := by decide +kernel
theorem d_TrustDeskLaw_law_278 : decode kY_TrustDeskLaw_law.2.1 278 = .ok (.iload 4, 2) := by decide +kernel
theorem d_TrustDeskLaw_law_280 : decode kY_TrustDeskLaw_law.2.1 280 = .ok (.iconst 3, 1) := by decide +kernel
theorem d_TrustDeskLaw_law_281 : decode kY_TrustDeskLaw_law.2.1 281 = .ok (.iadd, 1) := by decide +kernel
theorem d_TrustDeskLaw_law_282 : decode kY_TrustDeskLaw_law.2.1 282 = .ok (.iaload, 1) := by decide +kernel
theorem d_TrustDeskLaw_law_283 : decode kY_TrustDeskLaw_law.2.1 283 = .ok (.invokevirtual 28, 3) := by decide +kernel
theorem lV_TrustDeskLaw_28 : mj_lV "TrustDeskLaw" 28 kY_TrustDeskModel_factOf 3 := ⟨⟨(mj_in1 (List.mem_of_getElem? (i := 1615) (by decide +kernel)) rfl), (mj_in1 (List.mem_of_getElem? (i := 10) (by decide +kernel)) rfl), (mj_in1 (List.mem_of_getElem? (i := 1618) (by decide +kernel)) rfl), by decide, rfl, by decide⟩, (mj_in1 (List.mem_of_getElem? (i := 1616) (by decide +kernel)) rfl), (mj_in1 (List.mem_of_getElem? (i := 1617) (by decide +kernel)) rfl)⟩
theorem d_TrustDeskLaw_law_286 : decode kY_TrustDeskLaw_law.2.1 286 = .ok (.pop, 1) := by decide +kernel
theorem d_TrustDeskLaw_law_287 : decode kY_TrustDeskLaw_law.2.1 287 = .ok (.goto 1194, 3) := by decide +kernel
set_option maxHeartbeats 4000000 in
theorem lx_case_1 {g : mj_G} {l : Launch} {d n Lf kc ks : Nat} {T : tm_H} {M : mj_M} {i t : Int32} (hlt : l.stackTraces = false) (h0 : 0 ≤ i.toInt) (hi : i.toInt + 6 ≤ (mj_L g : Int)) (hL : mj_L g ≤ 3072) (LI : lx_I T M n Lf t t) (k0 : lx_K T M n t) (kk : ∀ (T1 : tm_H) (M1 : mj_M) (n1 : Nat) (t1 : Int32), lx_I T1 M1 n1 Lf t1 t1 → lx_K T1 M1 n1 t1 → mj_V g l kY_TrustDeskLaw_law (d + 28) 1481 (lx_lv i) [] M1 n1 kc ks lx_Q) : mj_V g l kY_TrustDeskLaw_law (d + 28) 241 (lx_lv i) [] M n (kc + 1100) (ks + 14000) lx_Q := by
  refine mv_aload_n d_TrustDeskLaw_law_241 rfl rfl ?_
  refine lx_ld (k := 1) (c := 1) h0 hi hL (by decide) (by decide) d_TrustDeskLaw_law_242 d_TrustDeskLaw_law_243 (mv_iconst d_TrustDeskLaw_law_245 (by decide)) d_TrustDeskLaw_law_246 d_TrustDeskLaw_law_247 ?_
  refine lx_ld (k := 2) (c := 2) h0 hi hL (by decide) (by decide) d_TrustDeskLaw_law_248 d_TrustDeskLaw_law_249 (mv_iconst d_TrustDeskLaw_law_251 (by decide)) d_TrustDeskLaw_law_252 d_TrustDeskLaw_law_253 ?_
  refine lx_ld (k := 3) (c := 3) h0 hi hL (by decide) (by decide) d_TrustDeskLaw_law_254 d_TrustDeskLaw_law_255 (mv_iconst d_TrustDeskLaw_law_257 (by decide)) d_TrustDeskLaw_law_258 d_TrustDeskLaw_law_259 ?_
  obtain ⟨_, b2, -⟩ := LI.1.1 _ _ LI.2.1
  refine mv_callV (kc' := kc + 1100) (ks' := ks + 14000) (As := [.int (mj_xs g (i.toNatClampNeg + 1)), .int (mj_xs g (i.toNatClampNeg + 2)), .int (mj_xs g (i.toNatClampNeg + 3))]) (st9 := [.int (mj_xs g (i.toNatClampNeg + 3)), .int (mj_xs g (i.toNatClampNeg + 2)), .int (mj_xs g (i.toNatClampNeg + 1)), .ref 64]) d_TrustDeskLaw_law_260 lV_TrustDeskLaw_24 b2 rfl (tc_TrustDesk_factOf (d := d + 26) (x9 := 0) (o0 := 64) (x1 := (mj_xs g (i.toNatClampNeg + 1))) (x2 := (mj_xs g (i.toNatClampNeg + 2))) (x3 := (mj_xs g (i.toNatClampNeg + 3))) LI.2.1 LI.1.start) rfl (Nat.le_of_ble_eq_true rfl) (by omega) (by omega) (hst := rfl) (fun r3 M4 n5 h6 => ?_)
  obtain ⟨T7, J8, v9, rfl⟩ := h6
  have LI10 := LI.desk J8 (lx_ok (by decide))
  have k1 := lx_Kkeep LI J8 (lx_ok (by decide)) k0
  refine mv_pop d_TrustDeskLaw_law_263 rfl ?_
  refine mv_aload_n d_TrustDeskLaw_law_264 rfl rfl ?_
  refine lx_ld (k := 1) (c := 1) h0 hi hL (by decide) (by decide) d_TrustDeskLaw_law_265 d_TrustDeskLaw_law_266 (mv_iconst d_TrustDeskLaw_law_268 (by decide)) d_TrustDeskLaw_law_269 d_TrustDeskLaw_law_270 ?_
  refine lx_ld (k := 2) (c := 2) h0 hi hL (by decide) (by decide) d_TrustDeskLaw_law_271 d_TrustDeskLaw_law_272 (mv_iconst d_TrustDeskLaw_law_274 (by decide)) d_TrustDeskLaw_law_275 d_TrustDeskLaw_law_276 ?_
  refine lx_ld (k := 3) (c := 3) h0 hi hL (by decide) (by decide) d_TrustDeskLaw_law_277 d_TrustDeskLaw_law_278 (mv_iconst d_TrustDeskLaw_law_280 (by decide)) d_TrustDeskLaw_law_281 d_TrustDeskLaw_law_282 ?_
  obtain ⟨_, b12, -⟩ := LI10.1.1 _ _ LI10.2.2.1
  refine mv_callV (kc' := kc + 1100) (ks' := ks + 14000) (As := [.int (mj_xs g (i.toNatClampNeg + 1)), .int (mj_xs g (i.toNatClampNeg + 2)), .int (mj_xs g (i.toNatClampNeg + 3))]) (st9 := [.int (mj_xs g (i.toNatClampNeg + 3)), .int (mj_xs g (i.toNatClampNeg + 2)), .int (mj_xs g (i.toNatClampNeg + 1)), .ref 99]) d_TrustDeskLaw_law_283 lV_TrustDeskLaw_28 b12 rfl (tc_TrustDeskModel_factOf_x (d := d + 26) (x9 := 0) (o0 := 99) (x1 := (mj_xs g (i.toNatClampNeg + 1))) (x2 := (mj_xs g (i.toNatClampNeg + 2))) (x3 := (mj_xs g (i.toNatClampNeg + 3))) LI10.2.2.1 LI10.2.2.2.2.2.2.2.2.2.1 LI10.1.start) rfl (Nat.le_of_ble_eq_true rfl) (by omega) (by omega) (hst := rfl) (fun r13 M14 n15 h16 => ?_)
  obtain ⟨T17, J18, v19, rfl, R21⟩ := h16
  have LI20 := LI10.ref J18 (lx_ok (by decide)) (J18.keep LI10.2.2.1 rfl LI10.2.2.2.2.2.2.2.1) R21 (LI10.2.2.2.2.2.2.2.2.2.2.1.same (sA_c LI10.1 J18 LI10.2.2.1 (by decide +kernel)) (sF_c LI10.1 J18 LI10.2.2.1 (by decide +kernel))) (LI10.2.2.2.2.2.2.2.2.2.2.2.1.same (sA_c LI10.1 J18 LI10.2.2.1 (by decide +kernel)) (sF_c LI10.1 J18 LI10.2.2.1 (by decide +kernel))) (LI10.2.2.2.2.2.2.2.2.2.2.2.2.1.same (sA_c LI10.1 J18 LI10.2.2.1 (by decide +kernel)) (sF_c LI10.1 J18 LI10.2.2.1 (by decide +kernel))) (LI10.2.2.2.2.2.2.2.2.2.2.2.2.2.same (sA_c LI10.1 J18 LI10.2.2.1 (by decide +kernel)) (sF_c LI10.1 J18 LI10.2.2.1 (by decide +kernel)))
  have k11 := lx_Kkeep LI10 J18 (lx_ok (by decide)) k1
  refine mv_pop d_TrustDeskLaw_law_286 rfl ?_
  refine mv_goto (tgt := 1481) d_TrustDeskLaw_law_287 (by decide) ?_
  exact mv_less (by omega) (by omega) (kk _ _ _ _ LI20 k11)
theorem d_TrustDeskLaw_law_525 : decode kY_TrustDeskLaw_law.2.1 525 = .ok (.aload_n 1, 1) := by decide +kernel
theorem d_TrustDeskLaw_law_526 : decode kY_TrustDeskLaw_law.2.1 526 = .ok (.aload_n 0, 1) := by decide +kernel
theorem d_TrustDeskLaw_law_527 : decode kY_TrustDeskLaw_law.2.1 527 = .ok (.iload 4, 2) := by decide +kernel
theorem d_TrustDeskLaw_law_529 : decode kY_TrustDeskLaw_law.2.1 529 = .ok (.iconst 1, 1) := by decide +kernel
theorem d_TrustDeskLaw_law_530 : decode kY_TrustDeskLaw_law.2.1 530 = .ok (.iadd, 1) := by decide +kernel
theorem d_TrustDeskLaw_law_531 : decode kY_TrustDeskLaw_law.2.1 531 = .ok (.iaload, 1) := by decide +kernel
theorem d_TrustDeskLaw_law_532 : decode kY_TrustDeskLaw_law.2.1 532 = .ok (.invokevirtual 60, 3) := by decide +kernel
theorem lV_TrustDeskLaw_60 : mj_lV "TrustDeskLaw" 60 kY_TrustDesk_days 1 := ⟨⟨(mj_in1 (List.mem_of_getElem? (i := 840) (by decide +kernel)) rfl), (mj_in1 (List.mem_of_getElem? (i := 1) (by decide +kernel)) rfl), (mj_in1 (List.mem_of_getElem? (i := 843) (by decide +kernel)) rfl), by decide, rfl, by decide⟩, (mj_in1 (List.mem_of_getElem? (i := 841) (by decide +kernel)) rfl), (mj_in1 (List.mem_of_getElem? (i := 842) (by decide +kernel)) rfl)⟩
theorem d_TrustDeskLaw_law_535 : decode kY_TrustDeskLaw_law.2.1 535 = .ok (.pop, 1) := by decide +kernel
theorem d_TrustDeskLaw_law_536 : decode kY_TrustDeskLaw_law.2.1 536 = .ok (.aload_n 2, 1) := by decide +kernel
theorem d_TrustDeskLaw_law_537 : decode kY_TrustDeskLaw_law.2.1 537 = .ok (.aload_n 0, 1) := by decide +kernel
theorem d_TrustDeskLaw_law_538 : decode kY_TrustDeskLaw_law.2.1 538 = .ok (.iload 4, 2) := by decide +kernel
theorem d_TrustDeskLaw_law_540 : decode kY_TrustDeskLaw_law.2.1 540 = .ok (.iconst 1, 1) := by decide +kernel
theorem d_TrustDeskLaw_law_541 : decode kY_TrustDeskLaw_law.2.1 541 = .ok (.iadd, 1) := by decide +kernel
theorem d_TrustDeskLaw_law_542 : decode kY_TrustDeskLaw_law.2.1 542 = .ok (.iaload, 1) := by decide +kernel
theorem d_TrustDeskLaw_law_543 : decode kY_TrustDeskLaw_law.2.1 543 = .ok (.invokevirtual 63, 3) := by decide +kernel
theorem lV_TrustDeskLaw_63 : mj_lV "TrustDeskLaw" 63 kY_TrustDeskModel_days 1 := ⟨⟨(mj_in1 (List.mem_of_getElem? (i := 1876) (by decide +kernel)) rfl), (mj_in1 (List.mem_of_getElem? (i := 10) (by decide +kernel)) rfl), (mj_in1 (List.mem_of_getElem? (i := 1879) (by decide +kernel)) rfl), by decide, rfl, by decide⟩, (mj_in1 (List.mem_of_getElem? (i := 1877) (by decide +kernel)) rfl), (mj_in1 (List.mem_of_getElem? (i := 1878) (by decide +kernel)) rfl)⟩
theorem d_TrustDeskLaw_law_546 : decode kY_TrustDeskLaw_law.2.1 546 = .ok (.pop, 1) := by decide +kernel
theorem d_TrustDeskLaw_law_547 : decode kY_TrustDeskLaw_law.2.1 547 = .ok (.goto 934, 3) := by decide +kernel
set_option maxHeartbeats 4000000 in
theorem lx_case_9 {g : mj_G} {l : Launch} {d n Lf kc ks : Nat} {T : tm_H} {M : mj_M} {i t : Int32} (hlt : l.stackTraces = false) (h0 : 0 ≤ i.toInt) (hi : i.toInt + 6 ≤ (mj_L g : Int)) (hL : mj_L g ≤ 3072) (LI : lx_I T M n Lf t t) (k0 : lx_K T M n t) (kk : ∀ (T1 : tm_H) (M1 : mj_M) (n1 : Nat) (t1 : Int32), lx_I T1 M1 n1 Lf t1 t1 → lx_K T1 M1 n1 t1 → mj_V g l kY_TrustDeskLaw_law (d + 28) 1481 (lx_lv i) [] M1 n1 kc ks lx_Q) : mj_V g l kY_TrustDeskLaw_law (d + 28) 525 (lx_lv i) [] M n (kc + 1100) (ks + 14000) lx_Q := by
  refine mv_aload_n d_TrustDeskLaw_law_525 rfl rfl ?_
  refine lx_ld (k := 1) (c := 1) h0 hi hL (by decide) (by decide) d_TrustDeskLaw_law_526 d_TrustDeskLaw_law_527 (mv_iconst d_TrustDeskLaw_law_529 (by decide)) d_TrustDeskLaw_law_530 d_TrustDeskLaw_law_531 ?_
  obtain ⟨_, b2, -⟩ := LI.1.1 _ _ LI.2.1
  refine mv_callV (kc' := kc + 1100) (ks' := ks + 14000) (As := [.int (mj_xs g (i.toNatClampNeg + 1))]) (st9 := [.int (mj_xs g (i.toNatClampNeg + 1)), .ref 64]) d_TrustDeskLaw_law_532 lV_TrustDeskLaw_60 b2 rfl (tc_TrustDesk_days_x (d := d + 20) (x9 := 0) (o0 := 64) (x1 := (mj_xs g (i.toNatClampNeg + 1))) LI.2.1 LI.2.2.2.2.2.2.1 LI.1.start) rfl (Nat.le_of_ble_eq_true rfl) (by omega) (by omega) (hst := rfl) (fun r3 M4 n5 h6 => ?_)
  obtain ⟨T7, J8, v9, rfl, q11⟩ := h6
  obtain ⟨t9, ht9⟩ := tm_atI (k := 12) J8 (J8.up LI.2.1) rfl
  have LI10 := LI.desk1 J8 (lx_ok (by decide)) (lx_D.keep LI.1.1 LI.2.2.2.2.1 J8 rfl rfl rfl rfl rfl LI.2.2.2.2.2.2.2.2.1) ht9
  have k1 := lx_Kkeep LI J8 (lx_ok (by decide)) k0
  refine mv_pop d_TrustDeskLaw_law_535 rfl ?_
  refine mv_aload_n d_TrustDeskLaw_law_536 rfl rfl ?_
  refine lx_ld (k := 1) (c := 1) h0 hi hL (by decide) (by decide) d_TrustDeskLaw_law_537 d_TrustDeskLaw_law_538 (mv_iconst d_TrustDeskLaw_law_540 (by decide)) d_TrustDeskLaw_law_541 d_TrustDeskLaw_law_542 ?_
  obtain ⟨_, b13, -⟩ := LI10.1.1 _ _ LI10.2.2.1
  refine mv_callV (kc' := kc + 1100) (ks' := ks + 14000) (As := [.int (mj_xs g (i.toNatClampNeg + 1))]) (st9 := [.int (mj_xs g (i.toNatClampNeg + 1)), .ref 99]) d_TrustDeskLaw_law_543 lV_TrustDeskLaw_63 b13 rfl (tc_TrustDeskModel_days_x (d := d + 22) (x9 := 0) (o0 := 99) (x1 := (mj_xs g (i.toNatClampNeg + 1))) LI10.2.2.1 LI10.2.2.2.2.2.2.2.2.2.1 LI10.2.2.2.2.2.2.2.1 LI10.2.2.2.2.2.2.2.2.2.2.1 LI10.1.start) rfl (Nat.le_of_ble_eq_true rfl) (by omega) (by omega) (hst := rfl) (fun r14 M15 n16 h17 => ?_)
  obtain ⟨T18, J19, v20, rfl, R24, f22, f23⟩ := h17
  have k12 := lx_Kkeep LI10 J19 (lx_ok (by decide)) k1
  refine mv_pop d_TrustDeskLaw_law_546 rfl ?_
  refine mv_goto (tgt := 1481) d_TrustDeskLaw_law_547 (by decide) ?_
  rcases q11 with ⟨e1, c1, q1⟩ | ⟨e1, c1, q1⟩
  · rcases f22 with ⟨e2, c2, q2⟩ | ⟨e2, c2, q2⟩
    · exact mv_less (by omega) (by omega) (kk _ _ _ _ (lx_I.ref (lx_I.desk1 LI J8 (lx_ok (by decide)) (lx_D.keep LI.1.1 LI.2.2.2.2.1 J8 rfl rfl rfl rfl rfl LI.2.2.2.2.2.2.2.2.1) q1) J19 (lx_ok (by decide)) q2 R24 f23 (LI10.2.2.2.2.2.2.2.2.2.2.2.1.same (sA_c LI10.1 J19 LI10.2.2.1 (by decide +kernel)) (sF_c LI10.1 J19 LI10.2.2.1 (by decide +kernel))) (LI10.2.2.2.2.2.2.2.2.2.2.2.2.1.same (sA_c LI10.1 J19 LI10.2.2.1 (by decide +kernel)) (sF_c LI10.1 J19 LI10.2.2.1 (by decide +kernel))) (LI10.2.2.2.2.2.2.2.2.2.2.2.2.2.same (sA_c LI10.1 J19 LI10.2.2.1 (by decide +kernel)) (sF_c LI10.1 J19 LI10.2.2.1 (by decide +kernel)))) (lx_Kt (Int.le_refl _) k12))
    · exact absurd c1 c2
  · rcases f22 with ⟨e2, c2, q2⟩ | ⟨e2, c2, q2⟩
    · exact absurd c2 c1
    · exact mv_less (by omega) (by omega) (kk _ _ _ _ (lx_I.ref (lx_I.desk1 LI J8 (lx_ok (by decide)) (lx_D.keep LI.1.1 LI.2.2.2.2.1 J8 rfl rfl rfl rfl rfl LI.2.2.2.2.2.2.2.2.1) q1) J19 (lx_ok (by decide)) q2 R24 f23 (LI10.2.2.2.2.2.2.2.2.2.2.2.1.same (sA_c LI10.1 J19 LI10.2.2.1 (by decide +kernel)) (sF_c LI10.1 J19 LI10.2.2.1 (by decide +kernel))) (LI10.2.2.2.2.2.2.2.2.2.2.2.2.1.same (sA_c LI10.1 J19 LI10.2.2.1 (by decide +kernel)) (sF_c LI10.1 J19 LI10.2.2.1 (by decide +kernel))) (LI10.2.2.2.2.2.2.2.2.2.2.2.2.2.same (sA_c LI10.1 J19 LI10.2.2.1 (by decide +kernel)) (sF_c LI10.1 J19 LI10.2.2.1 (by decide +kernel)))) (lx_Kt (by have h9 := tm_rv LI.2.2.2.2.2.2.2.1; have h8 := LI.2.2.2.2.2.2.2.2.2.1.1 1 _ _ rfl; rw [h9] at h8; have h7 : (t + (mj_xs g (i.toNatClampNeg + 1)) : Int32).toInt = t.toInt + ((mj_xs g (i.toNatClampNeg + 1))).toInt := mz_addc _ (by omega) (by omega); omega) k12))
theorem d_TrustDeskLaw_law_837 : decode kY_TrustDeskLaw_law.2.1 837 = .ok (.aload_n 1, 1) := by decide +kernel
theorem d_TrustDeskLaw_law_838 : decode kY_TrustDeskLaw_law.2.1 838 = .ok (.aload_n 0, 1) := by decide +kernel
theorem d_TrustDeskLaw_law_839 : decode kY_TrustDeskLaw_law.2.1 839 = .ok (.iload 4, 2) := by decide +kernel
theorem d_TrustDeskLaw_law_841 : decode kY_TrustDeskLaw_law.2.1 841 = .ok (.iconst 1, 1) := by decide +kernel
theorem d_TrustDeskLaw_law_842 : decode kY_TrustDeskLaw_law.2.1 842 = .ok (.iadd, 1) := by decide +kernel
theorem d_TrustDeskLaw_law_843 : decode kY_TrustDeskLaw_law.2.1 843 = .ok (.iaload, 1) := by decide +kernel
theorem d_TrustDeskLaw_law_844 : decode kY_TrustDeskLaw_law.2.1 844 = .ok (.aload_n 0, 1) := by decide +kernel
theorem d_TrustDeskLaw_law_845 : decode kY_TrustDeskLaw_law.2.1 845 = .ok (.iload 4, 2) := by decide +kernel
theorem d_TrustDeskLaw_law_847 : decode kY_TrustDeskLaw_law.2.1 847 = .ok (.iconst 2, 1) := by decide +kernel
theorem d_TrustDeskLaw_law_848 : decode kY_TrustDeskLaw_law.2.1 848 = .ok (.iadd, 1) := by decide +kernel
theorem d_TrustDeskLaw_law_849 : decode kY_TrustDeskLaw_law.2.1 849 = .ok (.iaload, 1) := by decide +kernel
theorem d_TrustDeskLaw_law_850 : decode kY_TrustDeskLaw_law.2.1 850 = .ok (.aload_n 3, 1) := by decide +kernel
theorem d_TrustDeskLaw_law_851 : decode kY_TrustDeskLaw_law.2.1 851 = .ok (.invokestatic 94, 3) := by decide +kernel
theorem d_TrustDeskLaw_law_854 : decode kY_TrustDeskLaw_law.2.1 854 = .ok (.istore 5, 2) := by decide +kernel
theorem d_TrustDeskLaw_law_856 : decode kY_TrustDeskLaw_law.2.1 856 = .ok (.aload_n 2, 1) := by decide +kernel
theorem d_TrustDeskLaw_law_857 : decode kY_TrustDeskLaw_law.2.1 857 = .ok (.aload_n 0, 1) := by decide +kernel
theorem d_TrustDeskLaw_law_858 : decode kY_TrustDeskLaw_law.2.1 858 = .ok (.iload 4, 2) := by decide +kernel
theorem d_TrustDeskLaw_law_860 : decode kY_TrustDeskLaw_law.2.1 860 = .ok (.iconst 1, 1) := by decide +kernel
theorem d_TrustDeskLaw_law_861 : decode kY_TrustDeskLaw_law.2.1 861 = .ok (.iadd, 1) := by decide +kernel
theorem d_TrustDeskLaw_law_862 : decode kY_TrustDeskLaw_law.2.1 862 = .ok (.iaload, 1) := by decide +kernel
theorem d_TrustDeskLaw_law_863 : decode kY_TrustDeskLaw_law.2.1 863 = .ok (.aload_n 0, 1) := by decide +kernel
theorem d_TrustDeskLaw_law_864 : decode kY_TrustDeskLaw_law.2.1 864 = .ok (.iload 4, 2) := by decide +kernel
theorem d_TrustDeskLaw_law_866 : decode kY_TrustDeskLaw_law.2.1 866 = .ok (.iconst 2, 1) := by decide +kernel
theorem d_TrustDeskLaw_law_867 : decode kY_TrustDeskLaw_law.2.1 867 = .ok (.iadd, 1) := by decide +kernel
theorem d_TrustDeskLaw_law_868 : decode kY_TrustDeskLaw_law.2.1 868 = .ok (.iaload, 1) := by decide +kernel
theorem d_TrustDeskLaw_law_869 : decode kY_TrustDeskLaw_law.2.1 869 = .ok (.invokevirtual 99, 3) := by decide +kernel
theorem lV_TrustDeskLaw_99 : mj_lV "TrustDeskLaw" 99 kY_TrustDeskModel_fundOf 2 := ⟨⟨(mj_in1 (List.mem_of_getElem? (i := 2053) (by decide +kernel)) rfl), (mj_in1 (List.mem_of_getElem? (i := 10) (by decide +kernel)) rfl), (mj_in1 (List.mem_of_getElem? (i := 2056) (by decide +kernel)) rfl), by decide, rfl, by decide⟩, (mj_in1 (List.mem_of_getElem? (i := 2054) (by decide +kernel)) rfl), (mj_in1 (List.mem_of_getElem? (i := 2055) (by decide +kernel)) rfl)⟩
theorem d_TrustDeskLaw_law_872 : decode kY_TrustDeskLaw_law.2.1 872 = .ok (.istore 6, 2) := by decide +kernel
theorem d_TrustDeskLaw_law_874 : decode kY_TrustDeskLaw_law.2.1 874 = .ok (.goto 607, 3) := by decide +kernel
set_option maxHeartbeats 4000000 in
theorem lx_case_17 {g : mj_G} {l : Launch} {d n Lf kc ks : Nat} {T : tm_H} {M : mj_M} {i t : Int32} (hlt : l.stackTraces = false) (h0 : 0 ≤ i.toInt) (hi : i.toInt + 6 ≤ (mj_L g : Int)) (hL : mj_L g ≤ 3072) (LI : lx_I T M n Lf t t) (k0 : lx_K T M n t) (kk : ∀ (T1 : tm_H) (M1 : mj_M) (n1 : Nat) (t1 : Int32), lx_I T1 M1 n1 Lf t1 t1 → lx_K T1 M1 n1 t1 → mj_V g l kY_TrustDeskLaw_law (d + 28) 1481 (lx_lv i) [] M1 n1 kc ks lx_Q) : mj_V g l kY_TrustDeskLaw_law (d + 28) 837 (lx_lv i) [] M n (kc + 1100) (ks + 14000) lx_Q := by
  refine mv_aload_n d_TrustDeskLaw_law_837 rfl rfl ?_
  refine lx_ld (k := 1) (c := 1) h0 hi hL (by decide) (by decide) d_TrustDeskLaw_law_838 d_TrustDeskLaw_law_839 (mv_iconst d_TrustDeskLaw_law_841 (by decide)) d_TrustDeskLaw_law_842 d_TrustDeskLaw_law_843 ?_
  refine lx_ld (k := 2) (c := 2) h0 hi hL (by decide) (by decide) d_TrustDeskLaw_law_844 d_TrustDeskLaw_law_845 (mv_iconst d_TrustDeskLaw_law_847 (by decide)) d_TrustDeskLaw_law_848 d_TrustDeskLaw_law_849 ?_
  refine mv_aload_n d_TrustDeskLaw_law_850 rfl rfl ?_
  refine mv_callFO (kc' := kc + 1099) (ks' := ks + 13994) (d := d + 20) (x := 0) hlt rfl LI.2.1 LI.2.2.2.1 LI.1.start d_TrustDeskLaw_law_851 (Nat.le_of_ble_eq_true rfl) (by omega) (by omega) (fun v1 T2 M3 n4 J5 => ?_)
  have LI6 := LI.desk J5 (lx_ok (by decide))
  have k7 := lx_Kkeep LI J5 (lx_ok (by decide)) k0
  refine mv_istore (lv' := [(5, .int v1), (4, .int i), (3, .ref 148), (2, .ref 99), (1, .ref 64), (0, .ref 50)]) d_TrustDeskLaw_law_854 (by decide) rfl ?_
  refine mv_drop (lv := lx_lv i) (fun q hq => List.mem_cons_of_mem _ hq) ?_
  refine mv_aload_n d_TrustDeskLaw_law_856 rfl rfl ?_
  refine lx_ld (k := 1) (c := 1) h0 hi hL (by decide) (by decide) d_TrustDeskLaw_law_857 d_TrustDeskLaw_law_858 (mv_iconst d_TrustDeskLaw_law_860 (by decide)) d_TrustDeskLaw_law_861 d_TrustDeskLaw_law_862 ?_
  refine lx_ld (k := 2) (c := 2) h0 hi hL (by decide) (by decide) d_TrustDeskLaw_law_863 d_TrustDeskLaw_law_864 (mv_iconst d_TrustDeskLaw_law_866 (by decide)) d_TrustDeskLaw_law_867 d_TrustDeskLaw_law_868 ?_
  obtain ⟨_, b9, -⟩ := LI6.1.1 _ _ LI6.2.2.1
  refine mv_callV (kc' := kc + 1099) (ks' := ks + 13994) (As := [.int (mj_xs g (i.toNatClampNeg + 1)), .int (mj_xs g (i.toNatClampNeg + 2))]) (st9 := [.int (mj_xs g (i.toNatClampNeg + 2)), .int (mj_xs g (i.toNatClampNeg + 1)), .ref 99]) d_TrustDeskLaw_law_869 lV_TrustDeskLaw_99 b9 rfl (tc_TrustDeskModel_fundOf_x (d := d + 26) (x9 := 0) (o0 := 99) (x1 := (mj_xs g (i.toNatClampNeg + 1))) (x2 := (mj_xs g (i.toNatClampNeg + 2))) LI6.2.2.1 LI6.2.2.2.2.2.2.2.2.2.1 LI6.1.start) rfl (Nat.le_of_ble_eq_true rfl) (by omega) (by omega) (hst := rfl) (fun r10 M11 n12 h13 => ?_)
  obtain ⟨T14, J15, v16, rfl, R18⟩ := h13
  have LI17 := LI6.ref J15 (lx_ok (by decide)) (J15.keep LI6.2.2.1 rfl LI6.2.2.2.2.2.2.2.1) R18 (LI6.2.2.2.2.2.2.2.2.2.2.1.same (sA_c LI6.1 J15 LI6.2.2.1 (by decide +kernel)) (sF_c LI6.1 J15 LI6.2.2.1 (by decide +kernel))) (LI6.2.2.2.2.2.2.2.2.2.2.2.1.same (sA_c LI6.1 J15 LI6.2.2.1 (by decide +kernel)) (sF_c LI6.1 J15 LI6.2.2.1 (by decide +kernel))) (LI6.2.2.2.2.2.2.2.2.2.2.2.2.1.same (sA_c LI6.1 J15 LI6.2.2.1 (by decide +kernel)) (sF_c LI6.1 J15 LI6.2.2.1 (by decide +kernel))) (LI6.2.2.2.2.2.2.2.2.2.2.2.2.2.same (sA_c LI6.1 J15 LI6.2.2.1 (by decide +kernel)) (sF_c LI6.1 J15 LI6.2.2.1 (by decide +kernel)))
  have k8 := lx_Kkeep LI6 J15 (lx_ok (by decide)) k7
  refine mv_istore (lv' := [(6, .int v16), (4, .int i), (3, .ref 148), (2, .ref 99), (1, .ref 64), (0, .ref 50)]) d_TrustDeskLaw_law_872 (by decide) rfl ?_
  refine mv_drop (lv := lx_lv i) (fun q hq => List.mem_cons_of_mem _ hq) ?_
  refine mv_goto (tgt := 1481) d_TrustDeskLaw_law_874 (by decide) ?_
  exact mv_less (by omega) (by omega) (kk _ _ _ _ LI17 k8)
