theorem d_TrustDeskLaw_law_192 : decode kY_TrustDeskLaw_law.2.1 192 = .ok (.aload_n 1, 1) := by decide +kernel
theorem d_TrustDeskLaw_law_193 : decode kY_TrustDeskLaw_law.2.1 193 = .ok (.aload_n 0, 1) := by decide +kernel
theorem d_TrustDeskLaw_law_194 : decode kY_TrustDeskLaw_law.2.1 194 = .ok (.iload 4, 2) := by decide +kernel
theorem d_TrustDeskLaw_law_196 : decode kY_TrustDeskLaw_law.2.1 196 = .ok (.iconst 1, 1) := by decide +kernel
theorem d_TrustDeskLaw_law_197 : decode kY_TrustDeskLaw_law.2.1 197 = .ok (.iadd, 1) := by decide +kernel
theorem d_TrustDeskLaw_law_198 : decode kY_TrustDeskLaw_law.2.1 198 = .ok (.iaload, 1) := by decide +kernel
theorem d_TrustDeskLaw_law_199 : decode kY_TrustDeskLaw_law.2.1 199 = .ok (.aload_n 0, 1) := by decide +kernel
theorem d_TrustDeskLaw_law_200 : decode kY_TrustDeskLaw_law.2.1 200 = .ok (.iload 4, 2) := by decide +kernel
theorem d_TrustDeskLaw_law_202 : decode kY_TrustDeskLaw_law.2.1 202 = .ok (.iconst 2, 1) := by decide +kernel
theorem d_TrustDeskLaw_law_203 : decode kY_TrustDeskLaw_law.2.1 203 = .ok (.iadd, 1) := by decide +kernel
theorem d_TrustDeskLaw_law_204 : decode kY_TrustDeskLaw_law.2.1 204 = .ok (.iaload, 1) := by decide +kernel
theorem d_TrustDeskLaw_law_205 : decode kY_TrustDeskLaw_law.2.1 205 = .ok (.aload_n 0, 1) := by decide +kernel
theorem d_TrustDeskLaw_law_206 : decode kY_TrustDeskLaw_law.2.1 206 = .ok (.iload 4, 2) := by decide +kernel
theorem d_TrustDeskLaw_law_208 : decode kY_TrustDeskLaw_law.2.1 208 = .ok (.iconst 3, 1) := by decide +kernel
theorem d_TrustDeskLaw_law_209 : decode kY_TrustDeskLaw_law.2.1 209 = .ok (.iadd, 1) := by decide +kernel
theorem d_TrustDeskLaw_law_210 : decode kY_TrustDeskLaw_law.2.1 210 = .ok (.iaload, 1) := by decide +kernel
theorem d_TrustDeskLaw_law_211 : decode kY_TrustDeskLaw_law.2.1 211 = .ok (.invokevirtual 19, 3) := by decide +kernel
theorem lV_TrustDeskLaw_19 : mj_lV "TrustDeskLaw" 19 kY_TrustDesk_fact 3 := ⟨⟨(mj_in1 (List.mem_of_getElem? (i := 307) (by decide +kernel)) rfl), (mj_in1 (List.mem_of_getElem? (i := 1) (by decide +kernel)) rfl), (mj_in1 (List.mem_of_getElem? (i := 310) (by decide +kernel)) rfl), by decide, rfl, by decide⟩, (mj_in1 (List.mem_of_getElem? (i := 308) (by decide +kernel)) rfl), (mj_in1 (List.mem_of_getElem? (i := 309) (by decide +kernel)) rfl)⟩
theorem d_TrustDeskLaw_law_214 : decode kY_TrustDeskLaw_law.2.1 214 = .ok (.pop, 1) := by decide +kernel
theorem d_TrustDeskLaw_law_215 : decode kY_TrustDeskLaw_law.2.1 215 = .ok (.aload_n 2, 1) := by decide +kernel
theorem d_TrustDeskLaw_law_216 : decode kY_TrustDeskLaw_law.2.1 216 = .ok (.aload_n 0, 1) := by decide +kernel
theorem d_TrustDeskLaw_law_217 : decode kY_TrustDeskLaw_law.2.1 217 = .ok (.iload 4, 2) := by decide +kernel
theorem d_TrustDeskLaw_law_219 : decode kY_TrustDeskLaw_law.2.1 219 = .ok (.iconst 1, 1) := by decide +kernel
theorem d_TrustDeskLaw_law_220 : decode kY_TrustDeskLaw_law.2.1 220 = .ok (.iadd, 1) := by decide +kernel
theorem d_TrustDeskLaw_law_221 : decode kY_TrustDeskLaw_law.2.1 221 = .ok (.iaload, 1) := by decide +kernel
theorem d_TrustDeskLaw_law_222 : decode kY_TrustDeskLaw_law.2.1 222 = .ok (.aload_n 0, 1) := by decide +kernel
theorem d_TrustDeskLaw_law_223 : decode kY_TrustDeskLaw_law.2.1 223 = .ok (.iload 4, 2) := by decide +kernel
theorem d_TrustDeskLaw_law_225 : decode kY_TrustDeskLaw_law.2.1 225 = .ok (.iconst 2, 1) := by decide +kernel
theorem d_TrustDeskLaw_law_226 : decode kY_TrustDeskLaw_law.2.1 226 = .ok (.iadd, 1) := by decide +kernel
theorem d_TrustDeskLaw_law_227 : decode kY_TrustDeskLaw_law.2.1 227 = .ok (.iaload, 1) := by decide +kernel
theorem d_TrustDeskLaw_law_228 : decode kY_TrustDeskLaw_law.2.1 228 = .ok (.aload_n 0, 1) := by decide +kernel
theorem d_TrustDeskLaw_law_229 : decode kY_TrustDeskLaw_law.2.1 229 = .ok (.iload 4, 2) := by decide +kernel
theorem d_TrustDeskLaw_law_231 : decode kY_TrustDeskLaw_law.2.1 231 = .ok (.iconst 3, 1) := by decide +kernel
theorem d_TrustDeskLaw_law_232 : decode kY_TrustDeskLaw_law.2.1 232 = .ok (.iadd, 1) := by decide +kernel
theorem d_TrustDeskLaw_law_233 : decode kY_TrustDeskLaw_law.2.1 233 = .ok (.iaload, 1) := by decide +kernel
theorem d_TrustDeskLaw_law_234 : decode kY_TrustDeskLaw_law.2.1 234 = .ok (.invokevirtual 23, 3) := by decide +kernel
theorem lV_TrustDeskLaw_23 : mj_lV "TrustDeskLaw" 23 kY_TrustDeskModel_fact 3 := ⟨⟨(mj_in1 (List.mem_of_getElem? (i := 1603) (by decide +kernel)) rfl), (mj_in1 (List.mem_of_getElem? (i := 10) (by decide +kernel)) rfl), (mj_in1 (List.mem_of_getElem? (i := 1606) (by decide +kernel)) rfl), by decide, rfl, by decide⟩, (mj_in1 (List.mem_of_getElem? (i := 1604) (by decide +kernel)) rfl), (mj_in1 (List.mem_of_getElem? (i := 1605) (by decide +kernel)) rfl)⟩
theorem d_TrustDeskLaw_law_237 : decode kY_TrustDeskLaw_law.2.1 237 = .ok (.pop, 1) := by decide +kernel
theorem d_TrustDeskLaw_law_238 : decode kY_TrustDeskLaw_law.2.1 238 = .ok (.goto 1243, 3) := by decide +kernel
set_option maxHeartbeats 4000000 in
theorem lx_case_0 {g : mj_G} {l : Launch} {d n Lf kc ks : Nat} {T : tm_H} {M : mj_M} {i t : Int32} (hlt : l.stackTraces = false) (h0 : 0 ≤ i.toInt) (hi : i.toInt + 6 ≤ (mj_L g : Int)) (hL : mj_L g ≤ 3072) (LI : lx_I T M n Lf t t) (k0 : lx_K T M n t) (kk : ∀ (T1 : tm_H) (M1 : mj_M) (n1 : Nat) (t1 : Int32), lx_I T1 M1 n1 Lf t1 t1 → lx_K T1 M1 n1 t1 → mj_V g l kY_TrustDeskLaw_law (d + 28) 1481 (lx_lv i) [] M1 n1 kc ks lx_Q) : mj_V g l kY_TrustDeskLaw_law (d + 28) 192 (lx_lv i) [] M n (kc + 1100) (ks + 14000) lx_Q := by
  refine mv_aload_n d_TrustDeskLaw_law_192 rfl rfl ?_
  refine lx_ld (k := 1) (c := 1) h0 hi hL (by decide) (by decide) d_TrustDeskLaw_law_193 d_TrustDeskLaw_law_194 (mv_iconst d_TrustDeskLaw_law_196 (by decide)) d_TrustDeskLaw_law_197 d_TrustDeskLaw_law_198 ?_
  refine lx_ld (k := 2) (c := 2) h0 hi hL (by decide) (by decide) d_TrustDeskLaw_law_199 d_TrustDeskLaw_law_200 (mv_iconst d_TrustDeskLaw_law_202 (by decide)) d_TrustDeskLaw_law_203 d_TrustDeskLaw_law_204 ?_
  refine lx_ld (k := 3) (c := 3) h0 hi hL (by decide) (by decide) d_TrustDeskLaw_law_205 d_TrustDeskLaw_law_206 (mv_iconst d_TrustDeskLaw_law_208 (by decide)) d_TrustDeskLaw_law_209 d_TrustDeskLaw_law_210 ?_
  obtain ⟨_, b2, -⟩ := LI.1.1 _ _ LI.2.1
  refine mv_callV (kc' := kc + 1100) (ks' := ks + 14000) (As := [.int (mj_xs g (i.toNatClampNeg + 1)), .int (mj_xs g (i.toNatClampNeg + 2)), .int (mj_xs g (i.toNatClampNeg + 3))]) (st9 := [.int (mj_xs g (i.toNatClampNeg + 3)), .int (mj_xs g (i.toNatClampNeg + 2)), .int (mj_xs g (i.toNatClampNeg + 1)), .ref 64]) d_TrustDeskLaw_law_211 lV_TrustDeskLaw_19 b2 rfl (tc_TrustDesk_fact (d := d + 26) (x9 := 0) (o0 := 64) (x1 := (mj_xs g (i.toNatClampNeg + 1))) (x2 := (mj_xs g (i.toNatClampNeg + 2))) (x3 := (mj_xs g (i.toNatClampNeg + 3))) LI.2.1 LI.1.start) rfl (Nat.le_of_ble_eq_true rfl) (by omega) (by omega) (hst := rfl) (fun r3 M4 n5 h6 => ?_)
  obtain ⟨T7, J8, v9, rfl, -, -⟩ := h6
  have LI10 := LI.desk J8 (lx_ok (by decide))
  have k1 := lx_Kkeep LI J8 (lx_ok (by decide)) k0
  refine mv_pop d_TrustDeskLaw_law_214 rfl ?_
  refine mv_aload_n d_TrustDeskLaw_law_215 rfl rfl ?_
  refine lx_ld (k := 1) (c := 1) h0 hi hL (by decide) (by decide) d_TrustDeskLaw_law_216 d_TrustDeskLaw_law_217 (mv_iconst d_TrustDeskLaw_law_219 (by decide)) d_TrustDeskLaw_law_220 d_TrustDeskLaw_law_221 ?_
  refine lx_ld (k := 2) (c := 2) h0 hi hL (by decide) (by decide) d_TrustDeskLaw_law_222 d_TrustDeskLaw_law_223 (mv_iconst d_TrustDeskLaw_law_225 (by decide)) d_TrustDeskLaw_law_226 d_TrustDeskLaw_law_227 ?_
  refine lx_ld (k := 3) (c := 3) h0 hi hL (by decide) (by decide) d_TrustDeskLaw_law_228 d_TrustDeskLaw_law_229 (mv_iconst d_TrustDeskLaw_law_231 (by decide)) d_TrustDeskLaw_law_232 d_TrustDeskLaw_law_233 ?_
  obtain ⟨_, b12, -⟩ := LI10.1.1 _ _ LI10.2.2.1
  refine mv_callV (kc' := kc + 1100) (ks' := ks + 14000) (As := [.int (mj_xs g (i.toNatClampNeg + 1)), .int (mj_xs g (i.toNatClampNeg + 2)), .int (mj_xs g (i.toNatClampNeg + 3))]) (st9 := [.int (mj_xs g (i.toNatClampNeg + 3)), .int (mj_xs g (i.toNatClampNeg + 2)), .int (mj_xs g (i.toNatClampNeg + 1)), .ref 99]) d_TrustDeskLaw_law_234 lV_TrustDeskLaw_23 b12 rfl (tc_TrustDeskModel_fact_x (d := d + 26) (x9 := 0) (o0 := 99) (x1 := (mj_xs g (i.toNatClampNeg + 1))) (x2 := (mj_xs g (i.toNatClampNeg + 2))) (x3 := (mj_xs g (i.toNatClampNeg + 3))) LI10.2.2.1 LI10.2.2.2.2.2.2.2.2.2.1 LI10.1.start) rfl (Nat.le_of_ble_eq_true rfl) (by omega) (by omega) (hst := rfl) (fun r13 M14 n15 h16 => ?_)
  obtain ⟨T17, J18, v19, rfl, -, -, R21⟩ := h16
  have LI20 := LI10.ref J18 (lx_ok (by decide)) (J18.keep LI10.2.2.1 rfl LI10.2.2.2.2.2.2.2.1) R21 (LI10.2.2.2.2.2.2.2.2.2.2.1.same (sA_c LI10.1 J18 LI10.2.2.1 (by decide +kernel)) (sF_c LI10.1 J18 LI10.2.2.1 (by decide +kernel))) (LI10.2.2.2.2.2.2.2.2.2.2.2.1.same (sA_c LI10.1 J18 LI10.2.2.1 (by decide +kernel)) (sF_c LI10.1 J18 LI10.2.2.1 (by decide +kernel))) (LI10.2.2.2.2.2.2.2.2.2.2.2.2.1.same (sA_c LI10.1 J18 LI10.2.2.1 (by decide +kernel)) (sF_c LI10.1 J18 LI10.2.2.1 (by decide +kernel))) (LI10.2.2.2.2.2.2.2.2.2.2.2.2.2.same (sA_c LI10.1 J18 LI10.2.2.1 (by decide +kernel)) (sF_c LI10.1 J18 LI10.2.2.1 (by decide +kernel)))
  have k11 := lx_Kkeep LI10 J18 (lx_ok (by decide)) k1
  refine mv_pop d_TrustDeskLaw_law_237 rfl ?_
  refine mv_goto (tgt := 1481) d_TrustDeskLaw_law_238 (by decide) ?_
  exact mv_less (by omega) (by omega) (kk _ _ _ _ LI20 k11)
theorem d_TrustDeskLaw_law_241 : decode kY_TrustDeskLaw_law.2.1 241 = .ok (.aload_n 1, 1) := by decide +kernel
theorem d_TrustDeskLaw_law_242 : decode kY_TrustDeskLaw_law.2.1 242 = .ok (.aload_n 0, 1) := by decide +kernel
theorem d_TrustDeskLaw_law_243 : decode kY_TrustDeskLaw_law.2.1 243 = .ok (.iload 4, 2) := by decide +kernel
theorem d_TrustDeskLaw_law_245 : decode kY_TrustDeskLaw_law.2.1 245 = .ok (.iconst 1, 1) := by decide +kernel
theorem d_TrustDeskLaw_law_246 : decode kY_TrustDeskLaw_law.2.1 246 = .ok (.iadd, 1) := by decide +kernel
theorem d_TrustDeskLaw_law_247 : decode kY_TrustDeskLaw_law.2.1 247 = .ok (.iaload, 1) := by decide +kernel
theorem d_TrustDeskLaw_law_248 : decode kY_TrustDeskLaw_law.2.1 248 = .ok (.aload_n 0, 1) := by decide +kernel
theorem d_TrustDeskLaw_law_249 : decode kY_TrustDeskLaw_law.2.1 249 = .ok (.iload 4, 2) := by decide +kernel
theorem d_TrustDeskLaw_law_251 : decode kY_TrustDeskLaw_law.2.1 251 = .ok (.iconst 2, 1) := by decide +kernel
theorem d_TrustDeskLaw_law_252 : decode kY_TrustDeskLaw_law.2.1 252 = .ok (.iadd, 1) := by decide +kernel
theorem d_TrustDeskLaw_law_253 : decode kY_TrustDeskLaw_law.2.1 253 = .ok (.iaload, 1) := by decide +kernel
theorem d_TrustDeskLaw_law_254 : decode kY_TrustDeskLaw_law.2.1 254 = .ok (.aload_n 0, 1) := by decide +kernel
theorem d_TrustDeskLaw_law_255 : decode kY_TrustDeskLaw_law.2.1 255 = .ok (.iload 4, 2) := by decide +kernel
theorem d_TrustDeskLaw_law_257 : decode kY_TrustDeskLaw_law.2.1 257 = .ok (.iconst 3, 1) := by decide +kernel
theorem d_TrustDeskLaw_law_258 : decode kY_TrustDeskLaw_law.2.1 258 = .ok (.iadd, 1) := by decide +kernel
theorem d_TrustDeskLaw_law_259 : decode kY_TrustDeskLaw_law.2.1 259 = .ok (.iaload, 1) := by decide +kernel
theorem d_TrustDeskLaw_law_260 : decode kY_TrustDeskLaw_law.2.1 260 = .ok (.invokevirtual 24, 3) := by decide +kernel
theorem lV_TrustDeskLaw_24 : mj_lV "TrustDeskLaw" 24 kY_TrustDesk_factOf 3 := ⟨⟨(mj_in1 (List.mem_of_getElem? (i := 321) (by decide +kernel)) rfl), (mj_in1 (List.mem_of_getElem? (i := 1) (by decide +kernel)) rfl), (mj_in1 (List.mem_of_getElem? (i := 324) (by decide +kernel)) rfl), by decide, rfl, by decide⟩, (mj_in1 (List.mem_of_getElem? (i := 322) (by decide +kernel)) rfl), (mj_in1 (List.mem_of_getElem? (i := 323) (by decide +kernel)) rfl)⟩
theorem d_TrustDeskLaw_law_263 : decode kY_TrustDeskLaw_law.2.1 263 = .ok (.pop, 1) := by decide +kernel
theorem d_TrustDeskLaw_law_264 : decode kY_TrustDeskLaw_law.2.1 264 = .ok (.aload_n 2, 1) := by decide +kernel
theorem d_TrustDeskLaw_law_265 : decode kY_TrustDeskLaw_law.2.1 265 = .ok (.aload_n 0, 1) := by decide +kernel
theorem d_TrustDeskLaw_law_266 : decode kY_TrustDeskLaw_law.2.1 266 = .ok (.iload 4, 2) := by decide +kernel
theorem d_TrustDeskLaw_law_268 : decode kY_TrustDeskLaw_law.2.1 268 = .ok (.iconst 1, 1) := by decide +kernel
theorem d_TrustDeskLaw_law_269 : decode kY_TrustDeskLaw_law.2.1 269 = .ok (.iadd, 1) := by decide +kernel
theorem d_TrustDeskLaw_law_270 : decode kY_TrustDeskLaw_law.2.1 270 = .ok (.iaload, 1) := by decide +kernel
theorem d_TrustDeskLaw_law_271 : decode kY_TrustDeskLaw_law.2.1 271 = .ok (.aload_n 0, 1) := by decide +kernel
theorem d_TrustDeskLaw_law_272 : decode kY_TrustDeskLaw_law.2.1 272 = .ok (.iload 4, 2) := by decide +kernel
theorem d_TrustDeskLaw_law_274 : decode kY_TrustDeskLaw_law.2.1 274 = .ok (.iconst 2, 1) := by decide +kernel
theorem d_TrustDeskLaw_law_275 : decode kY_TrustDeskLaw_law.2.1 275 = .ok (.iadd, 1) := by decide +kernel
theorem d_TrustDeskLaw_law_276 : decode kY_TrustDeskLaw_law.2.1 276 = .ok (.iaload, 1) := by decide +kernel
theorem d_TrustDeskLaw_law_277 : decode kY_TrustDeskLaw_law.2.1 277 = .ok (.aload_n 0, 1) := by decide +kernel
theorem d_TrustDeskLaw_law_278 : decode kY_TrustDeskLaw_law.2.1 278 = .ok (.iload 4, 2) := by decide +kernel
theorem d_TrustDeskLaw_law_280 : decode kY_TrustDeskLaw_law.2.1 280 = .ok (.iconst 3, 1) := by decide +kernel
theorem d_TrustDeskLaw_law_281 : decode kY_TrustDeskLaw_law.2.1 281 = .ok (.iadd, 1) := by decide +kernel
theorem d_TrustDeskLaw_law_282 : decode kY_TrustDeskLaw_law.2.1 282 = .ok (.iaload, 1) := by decide +kernel
theorem d_TrustDeskLaw_law_283 : decode kY_TrustDeskLaw_law.2.1 283 = .ok (.invokevirtual 28, 3) := by decide +kernel
theorem lV_TrustDeskLaw_28 : mj_lV "TrustDeskLaw" 28 kY_TrustDeskModel_factOf 3 := ⟨⟨(mj_in1 (List.mem_of_getElem? (i := 1615) (by decide +kernel)) rfl), (mj_in1 (List.mem_of_getElem? (i := 10) (by decide +kernel)) rfl), (mj_in1 (List.mem_of_getElem? (i := 1618) (by decide +kernel)) rfl), by decide, rfl, by decide⟩, (mj_in1 (List.mem_of_getElem? (i := 1616) (by decide +kernel)) rfl), (mj_in1 (List.mem_of_getElem? (i := 1617) (by decide +kernel)) rfl)⟩
theorem d_TrustDeskLaw_law_286 : decode kY_TrustDeskLaw_law.2.1 286 = .ok (.pop, 1) := by decide +kernel
theorem d_TrustDeskLaw_law_287 : decode kY_TrustDeskLaw_law.2.1 287 = .ok (.goto 1194, 3) := by decide +kernel
set_option maxHeartbeats 4000000 in
theorem lx_case_1 {g : mj_G} {l : Launch} {d n Lf kc ks : Nat} {T : tm_H} {M : mj_M} {i t : Int32} (hlt : l.stackTraces = false) (h0 : 0 ≤ i.toInt) (hi : i.toInt + 6 ≤ (mj_L g : Int)) (hL : mj_L g ≤ 3072) (LI : lx_I T M n Lf t t) (k0 : lx_K T M n t) (kk : ∀ (T1 : tm_H) (M1 : mj_M) (n1 : Nat) (t1 : Int32), lx_I T1 M1 n1 Lf t1 t1 → lx_K T1 M1 n1 t1 → mj_V g l kY_TrustDeskLaw_law (d + 28) 1481 (lx_lv i) [] M1 n1 kc ks lx_Q) : mj_V g l kY_TrustDeskLaw_law (d + 28) 241 (lx_lv i) [] M n (kc + 1100) (ks + 14000) lx_Q := by
  refine mv_aload_n d_TrustDeskLaw_law_241 rfl rfl ?_
  refine lx_ld (k := 1) (c := 1) h0 hi hL (by decide) (by decide) d_TrustDeskLaw_law_242 d_TrustDeskLaw_law_243 (mv_iconst d_TrustDeskLaw_law_245 (by decide)) d_TrustDeskLaw_law_246 d_TrustDeskLaw_law_247 ?_
  refine lx_ld (k := 2) (c := 2) h0 hi hL (by decide) (by decide) d_TrustDeskLaw_law_248 d_TrustDeskLaw_law_249 (mv_iconst d_TrustDeskLaw_law_251 (by decide)) d_TrustDeskLaw_law_252 d_TrustDeskLaw_law_253 ?_
  refine lx_ld (k := 3) (c := 3) h0 hi hL (by decide) (by decide) d_TrustDeskLaw_law_254 d_TrustDeskLaw_law_255 (mv_iconst d_TrustDeskLaw_law_257 (by decide)) d_TrustDeskLaw_law_258 d_TrustDeskLaw_law_259 ?_
  obtain ⟨_, b2, -⟩ := LI.1.1 _ _ LI.2.1
  refine mv_callV (kc' := kc + 1100) (ks' := ks + 14000) (As := [.int (mj_xs g (i.toNatClampNeg + 1)), .int (mj_xs g (i.toNatClampNeg + 2)), .int (mj_xs g (i.toNatClampNeg + 3))]) (st9 := [.int (mj_xs g (i.toNatClampNeg + 3)), .int (mj_xs g (i.toNatClampNeg + 2)), .int (mj_xs g (i.toNatClampNeg + 1)), .ref 64]) d_TrustDeskLaw_law_260 lV_TrustDeskLaw_24 b2 rfl (tc_TrustDesk_factOf (d := d + 26) (x9 := 0) (o0 := 64) (x1 := (mj_xs g (i.toNatClampNeg + 1))) (x2 := (mj_xs g (i.toNatClampNeg + 2))) (x3 := (mj_xs g (i.toNatClampNeg + 3))) LI.2.1 LI.1.start) rfl (Nat.le_of_ble_eq_true rfl) (by omega) (by omega) (hst := rfl) (fun r3 M4 n5 h6 => ?_)
  obtain ⟨T7, J8, v9, rfl⟩ := h6
  have LI10 := LI.desk J8 (lx_ok (by decide))
  have k1 := lx_Kkeep LI J8 (lx_ok (by decide)) k0
  refine mv_pop d_TrustDeskLaw_law_263 rfl ?_
  refine mv_aload_n d_TrustDeskLaw_law_264 rfl rfl ?_
  refine lx_ld (k := 1) (c := 1) h0 hi hL (by decide) (by decide) d_TrustDeskLaw_law_265 d_TrustDeskLaw_law_266 (mv_iconst d_TrustDeskLaw_law_268 (by decide)) d_TrustDeskLaw_law_269 d_TrustDeskLaw_law_270 ?_
  refine lx_ld (k := 2) (c := 2) h0 hi hL (by decide) (by decide) d_TrustDeskLaw_law_271 d_TrustDeskLaw_law_272 (mv_iconst d_TrustDeskLaw_law_274 (by decide)) d_TrustDeskLaw_law_275 d_TrustDeskLaw_law_276 ?_
  refine lx_ld (k := 3) (c := 3) h0 hi hL (by decide) (by decide) d_TrustDeskLaw_law_277 d_TrustDeskLaw_law_278 (mv_iconst d_TrustDeskLaw_law_280 (by decide)) d_TrustDeskLaw_law_281 d_TrustDeskLaw_law_282 ?_
  obtain ⟨_, b12, -⟩ := LI10.1.1 _ _ LI10.2.2.1
  refine mv_callV (kc' := kc + 1100) (ks' := ks + 14000) (As := [.int (mj_xs g (i.toNatClampNeg + 1)), .int (mj_xs g (i.toNatClampNeg + 2)), .int (mj_xs g (i.toNatClampNeg + 3))]) (st9 := [.int (mj_xs g (i.toNatClampNeg + 3)), .int (mj_xs g (i.toNatClampNeg + 2)), .int (mj_xs g (i.toNatClampNeg + 1)), .ref 99]) d_TrustDeskLaw_law_283 lV_TrustDeskLaw_28 b12 rfl (tc_TrustDeskModel_factOf_x (d := d + 26) (x9 := 0) (o0 := 99) (x1 := (mj_xs g (i.toNatClampNeg + 1))) (x2 := (mj_xs g (i.toNatClampNeg + 2))) (x3 := (mj_xs g (i.toNatClampNeg + 3))) LI10.2.2.1 LI10.2.2.2.2.2.2.2.2.2.1 LI10.1.start) rfl (Nat.le_of_ble_eq_true rfl) (by omega) (by omega) (hst := rfl) (fun r13 M14 n15 h16 => ?_)
  obtain ⟨T17, J18, v19, rfl, R21⟩ := h16
  have LI20 := LI10.ref J18 (lx_ok (by decide)) (J18.keep LI10.2.2.1 rfl LI10.2.2.2.2.2.2.2.1) R21 (LI10.2.2.2.2.2.2.2.2.2.2.1.same (sA_c LI10.1 J18 LI10.2.2.1 (by decide +kernel)) (sF_c LI10.1 J18 LI10.2.2.1 (by decide +kernel))) (LI10.2.2.2.2.2.2.2.2.2.2.2.1.same (sA_c LI10.1 J18 LI10.2.2.1 (by decide +kernel)) (sF_c LI10.1 J18 LI10.2.2.1 (by decide +kernel))) (LI10.2.2.2.2.2.2.2.2.2.2.2.2.1.same (sA_c LI10.1 J18 LI10.2.2.1 (by decide +kernel)) (sF_c LI10.1 J18 LI10.2.2.1 (by decide +kernel))) (LI10.2.2.2.2.2.2.2.2.2.2.2.2.2.same (sA_c LI10.1 J18 LI10.2.2.1 (by decide +kernel)) (sF_c LI10.1 J18 LI10.2.2.1 (by decide +kernel)))
  have k11 := lx_Kkeep LI10 J18 (lx_ok (by decide)) k1
  refine mv_pop d_TrustDeskLaw_law_286 rfl ?_
  refine mv_goto (tgt := 1481) d_TrustDeskLaw_law_287 (by decide) ?_
  exact mv_less (by omega) (by omega) (kk _ _ _ _ LI20 k11)
theorem d_TrustDeskLaw_law_290 : decode kY_TrustDeskLaw_law.2.1 290 = .ok (.aload_n 1, 1) := by decide +kernel
theorem d_TrustDeskLaw_law_291 : decode kY_TrustDeskLaw_law.2.1 291 = .ok (.aload_n 0, 1) := by decide +kernel
theorem d_TrustDeskLaw_law_292 : decode kY_TrustDeskLaw_law.2.1 292 = .ok (.iload 4, 2) := by decide +kernel
theorem d_TrustDeskLaw_law_294 : decode kY_TrustDeskLaw_law.2.1 294 = .ok (.iconst 1, 1) := by decide +kernel
theorem d_TrustDeskLaw_law_295 : decode kY_TrustDeskLaw_law.2.1 295 = .ok (.iadd, 1) := by decide +kernel
theorem d_TrustDeskLaw_law_296 : decode kY_TrustDeskLaw_law.2.1 296 = .ok (.iaload, 1) := by decide +kernel
theorem d_TrustDeskLaw_law_297 : decode kY_TrustDeskLaw_law.2.1 297 = .ok (.aload_n 0, 1) := by decide +kernel
theorem d_TrustDeskLaw_law_298 : decode kY_TrustDeskLaw_law.2.1 298 = .ok (.iload 4, 2) := by decide +kernel
theorem d_TrustDeskLaw_law_300 : decode kY_TrustDeskLaw_law.2.1 300 = .ok (.iconst 2, 1) := by decide +kernel
theorem d_TrustDeskLaw_law_301 : decode kY_TrustDeskLaw_law.2.1 301 = .ok (.iadd, 1) := by decide +kernel
theorem d_TrustDeskLaw_law_302 : decode kY_TrustDeskLaw_law.2.1 302 = .ok (.iaload, 1) := by decide +kernel
theorem d_TrustDeskLaw_law_303 : decode kY_TrustDeskLaw_law.2.1 303 = .ok (.aload_n 0, 1) := by decide +kernel
theorem d_TrustDeskLaw_law_304 : decode kY_TrustDeskLaw_law.2.1 304 = .ok (.iload 4, 2) := by decide +kernel
theorem d_TrustDeskLaw_law_306 : decode kY_TrustDeskLaw_law.2.1 306 = .ok (.iconst 3, 1) := by decide +kernel
theorem d_TrustDeskLaw_law_307 : decode kY_TrustDeskLaw_law.2.1 307 = .ok (.iadd, 1) := by decide +kernel
theorem d_TrustDeskLaw_law_308 : decode kY_TrustDeskLaw_law.2.1 308 = .ok (.iaload, 1) := by decide +kernel
theorem d_TrustDeskLaw_law_309 : decode kY_TrustDeskLaw_law.2.1 309 = .ok (.aload_n 0, 1) := by decide +kernel
theorem d_TrustDeskLaw_law_310 : decode kY_TrustDeskLaw_law.2.1 310 = .ok (.iload 4, 2) := by decide +kernel
theorem d_TrustDeskLaw_law_312 : decode kY_TrustDeskLaw_law.2.1 312 = .ok (.iconst 4, 1) := by decide +kernel
theorem d_TrustDeskLaw_law_313 : decode kY_TrustDeskLaw_law.2.1 313 = .ok (.iadd, 1) := by decide +kernel
theorem d_TrustDeskLaw_law_314 : decode kY_TrustDeskLaw_law.2.1 314 = .ok (.iaload, 1) := by decide +kernel
theorem d_TrustDeskLaw_law_315 : decode kY_TrustDeskLaw_law.2.1 315 = .ok (.aload_n 0, 1) := by decide +kernel
theorem d_TrustDeskLaw_law_316 : decode kY_TrustDeskLaw_law.2.1 316 = .ok (.iload 4, 2) := by decide +kernel
theorem d_TrustDeskLaw_law_318 : decode kY_TrustDeskLaw_law.2.1 318 = .ok (.iconst 5, 1) := by decide +kernel
theorem d_TrustDeskLaw_law_319 : decode kY_TrustDeskLaw_law.2.1 319 = .ok (.iadd, 1) := by decide +kernel
theorem d_TrustDeskLaw_law_320 : decode kY_TrustDeskLaw_law.2.1 320 = .ok (.iaload, 1) := by decide +kernel
theorem d_TrustDeskLaw_law_321 : decode kY_TrustDeskLaw_law.2.1 321 = .ok (.invokevirtual 29, 3) := by decide +kernel
theorem lV_TrustDeskLaw_29 : mj_lV "TrustDeskLaw" 29 kY_TrustDesk_feed 5 := ⟨⟨(mj_in1 (List.mem_of_getElem? (i := 333) (by decide +kernel)) rfl), (mj_in1 (List.mem_of_getElem? (i := 1) (by decide +kernel)) rfl), (mj_in1 (List.mem_of_getElem? (i := 336) (by decide +kernel)) rfl), by decide, rfl, by decide⟩, (mj_in1 (List.mem_of_getElem? (i := 334) (by decide +kernel)) rfl), (mj_in1 (List.mem_of_getElem? (i := 335) (by decide +kernel)) rfl)⟩
theorem d_TrustDeskLaw_law_324 : decode kY_TrustDeskLaw_law.2.1 324 = .ok (.pop, 1) := by decide +kernel
theorem d_TrustDeskLaw_law_325 : decode kY_TrustDeskLaw_law.2.1 325 = .ok (.aload_n 2, 1) := by decide +kernel
theorem d_TrustDeskLaw_law_326 : decode kY_TrustDeskLaw_law.2.1 326 = .ok (.aload_n 0, 1) := by decide +kernel
theorem d_TrustDeskLaw_law_327 : decode kY_TrustDeskLaw_law.2.1 327 = .ok (.iload 4, 2) := by decide +kernel
theorem d_TrustDeskLaw_law_329 : decode kY_TrustDeskLaw_law.2.1 329 = .ok (.iconst 1, 1) := by decide +kernel
theorem d_TrustDeskLaw_law_330 : decode kY_TrustDeskLaw_law.2.1 330 = .ok (.iadd, 1) := by decide +kernel
theorem d_TrustDeskLaw_law_331 : decode kY_TrustDeskLaw_law.2.1 331 = .ok (.iaload, 1) := by decide +kernel
theorem d_TrustDeskLaw_law_332 : decode kY_TrustDeskLaw_law.2.1 332 = .ok (.aload_n 0, 1) := by decide +kernel
theorem d_TrustDeskLaw_law_333 : decode kY_TrustDeskLaw_law.2.1 333 = .ok (.iload 4, 2) := by decide +kernel
theorem d_TrustDeskLaw_law_335 : decode kY_TrustDeskLaw_law.2.1 335 = .ok (.iconst 2, 1) := by decide +kernel
theorem d_TrustDeskLaw_law_336 : decode kY_TrustDeskLaw_law.2.1 336 = .ok (.iadd, 1) := by decide +kernel
theorem d_TrustDeskLaw_law_337 : decode kY_TrustDeskLaw_law.2.1 337 = .ok (.iaload, 1) := by decide +kernel
theorem d_TrustDeskLaw_law_338 : decode kY_TrustDeskLaw_law.2.1 338 = .ok (.aload_n 0, 1) := by decide +kernel
theorem d_TrustDeskLaw_law_339 : decode kY_TrustDeskLaw_law.2.1 339 = .ok (.iload 4, 2) := by decide +kernel
theorem d_TrustDeskLaw_law_341 : decode kY_TrustDeskLaw_law.2.1 341 = .ok (.iconst 3, 1) := by decide +kernel
theorem d_TrustDeskLaw_law_342 : decode kY_TrustDeskLaw_law.2.1 342 = .ok (.iadd, 1) := by decide +kernel
theorem d_TrustDeskLaw_law_343 : decode kY_TrustDeskLaw_law.2.1 343 = .ok (.iaload, 1) := by decide +kernel
theorem d_TrustDeskLaw_law_344 : decode kY_TrustDeskLaw_law.2.1 344 = .ok (.aload_n 0, 1) := by decide +kernel
theorem d_TrustDeskLaw_law_345 : decode kY_TrustDeskLaw_law.2.1 345 = .ok (.iload 4, 2) := by decide +kernel
theorem d_TrustDeskLaw_law_347 : decode kY_TrustDeskLaw_law.2.1 347 = .ok (.iconst 4, 1) := by decide +kernel
theorem d_TrustDeskLaw_law_348 : decode kY_TrustDeskLaw_law.2.1 348 = .ok (.iadd, 1) := by decide +kernel
theorem d_TrustDeskLaw_law_349 : decode kY_TrustDeskLaw_law.2.1 349 = .ok (.iaload, 1) := by decide +kernel
theorem d_TrustDeskLaw_law_350 : decode kY_TrustDeskLaw_law.2.1 350 = .ok (.aload_n 0, 1) := by decide +kernel
theorem d_TrustDeskLaw_law_351 : decode kY_TrustDeskLaw_law.2.1 351 = .ok (.iload 4, 2) := by decide +kernel
theorem d_TrustDeskLaw_law_353 : decode kY_TrustDeskLaw_law.2.1 353 = .ok (.iconst 5, 1) := by decide +kernel
theorem d_TrustDeskLaw_law_354 : decode kY_TrustDeskLaw_law.2.1 354 = .ok (.iadd, 1) := by decide +kernel
theorem d_TrustDeskLaw_law_355 : decode kY_TrustDeskLaw_law.2.1 355 = .ok (.iaload, 1) := by decide +kernel
theorem d_TrustDeskLaw_law_356 : decode kY_TrustDeskLaw_law.2.1 356 = .ok (.invokevirtual 33, 3) := by decide +kernel
theorem lV_TrustDeskLaw_33 : mj_lV "TrustDeskLaw" 33 kY_TrustDeskModel_feed 5 := ⟨⟨(mj_in1 (List.mem_of_getElem? (i := 1627) (by decide +kernel)) rfl), (mj_in1 (List.mem_of_getElem? (i := 10) (by decide +kernel)) rfl), (mj_in1 (List.mem_of_getElem? (i := 1630) (by decide +kernel)) rfl), by decide, rfl, by decide⟩, (mj_in1 (List.mem_of_getElem? (i := 1628) (by decide +kernel)) rfl), (mj_in1 (List.mem_of_getElem? (i := 1629) (by decide +kernel)) rfl)⟩
theorem d_TrustDeskLaw_law_359 : decode kY_TrustDeskLaw_law.2.1 359 = .ok (.pop, 1) := by decide +kernel
theorem d_TrustDeskLaw_law_360 : decode kY_TrustDeskLaw_law.2.1 360 = .ok (.goto 1121, 3) := by decide +kernel
set_option maxHeartbeats 4000000 in
theorem lx_case_2 {g : mj_G} {l : Launch} {d n Lf kc ks : Nat} {T : tm_H} {M : mj_M} {i t : Int32} (hlt : l.stackTraces = false) (h0 : 0 ≤ i.toInt) (hi : i.toInt + 6 ≤ (mj_L g : Int)) (hL : mj_L g ≤ 3072) (LI : lx_I T M n Lf t t) (k0 : lx_K T M n t) (kk : ∀ (T1 : tm_H) (M1 : mj_M) (n1 : Nat) (t1 : Int32), lx_I T1 M1 n1 Lf t1 t1 → lx_K T1 M1 n1 t1 → mj_V g l kY_TrustDeskLaw_law (d + 28) 1481 (lx_lv i) [] M1 n1 kc ks lx_Q) : mj_V g l kY_TrustDeskLaw_law (d + 28) 290 (lx_lv i) [] M n (kc + 1100) (ks + 14000) lx_Q := by
  refine mv_aload_n d_TrustDeskLaw_law_290 rfl rfl ?_
  refine lx_ld (k := 1) (c := 1) h0 hi hL (by decide) (by decide) d_TrustDeskLaw_law_291 d_TrustDeskLaw_law_292 (mv_iconst d_TrustDeskLaw_law_294 (by decide)) d_TrustDeskLaw_law_295 d_TrustDeskLaw_law_296 ?_
  refine lx_ld (k := 2) (c := 2) h0 hi hL (by decide) (by decide) d_TrustDeskLaw_law_297 d_TrustDeskLaw_law_298 (mv_iconst d_TrustDeskLaw_law_300 (by decide)) d_TrustDeskLaw_law_301 d_TrustDeskLaw_law_302 ?_
  refine lx_ld (k := 3) (c := 3) h0 hi hL (by decide) (by decide) d_TrustDeskLaw_law_303 d_TrustDeskLaw_law_304 (mv_iconst d_TrustDeskLaw_law_306 (by decide)) d_TrustDeskLaw_law_307 d_TrustDeskLaw_law_308 ?_
  refine lx_ld (k := 4) (c := 4) h0 hi hL (by decide) (by decide) d_TrustDeskLaw_law_309 d_TrustDeskLaw_law_310 (mv_iconst d_TrustDeskLaw_law_312 (by decide)) d_TrustDeskLaw_law_313 d_TrustDeskLaw_law_314 ?_
  refine lx_ld (k := 5) (c := 5) h0 hi hL (by decide) (by decide) d_TrustDeskLaw_law_315 d_TrustDeskLaw_law_316 (mv_iconst d_TrustDeskLaw_law_318 (by decide)) d_TrustDeskLaw_law_319 d_TrustDeskLaw_law_320 ?_
  obtain ⟨_, b2, -⟩ := LI.1.1 _ _ LI.2.1
  obtain ⟨pb, pn, P9, A9, F9, N9, S9, kD, kM⟩ := id k0
  obtain ⟨Rd, La, Lg, Ln, Ls, vp, ka, kf, kn, ks9, ⟨hR, qR⟩, yB, ⟨yp, ep⟩, lA, lF, lN, lS⟩ := id kD
  refine mv_callV (kc' := kc + 1100) (ks' := ks + 14000) (As := [.int (mj_xs g (i.toNatClampNeg + 1)), .int (mj_xs g (i.toNatClampNeg + 2)), .int (mj_xs g (i.toNatClampNeg + 3)), .int (mj_xs g (i.toNatClampNeg + 4)), .int (mj_xs g (i.toNatClampNeg + 5))]) (st9 := [.int (mj_xs g (i.toNatClampNeg + 5)), .int (mj_xs g (i.toNatClampNeg + 4)), .int (mj_xs g (i.toNatClampNeg + 3)), .int (mj_xs g (i.toNatClampNeg + 2)), .int (mj_xs g (i.toNatClampNeg + 1)), .ref 64]) d_TrustDeskLaw_law_321 lV_TrustDeskLaw_29 b2 rfl (tc_TrustDesk_feed_r (d := d + 26) (x9 := 0) (o0 := 64) (x1 := (mj_xs g (i.toNatClampNeg + 1))) (x2 := (mj_xs g (i.toNatClampNeg + 2))) (x3 := (mj_xs g (i.toNatClampNeg + 3))) (x4 := (mj_xs g (i.toNatClampNeg + 4))) (x5 := (mj_xs g (i.toNatClampNeg + 5))) LI.2.1 hR qR yB LI.1.start) rfl (Nat.le_of_ble_eq_true rfl) (by omega) (by omega) (hst := rfl) (fun r3 M4 n5 h6 => ?_)
  obtain ⟨T7, J8, v9, rfl, q11⟩ := h6
  have LI10 := LI.desk J8 (lx_ok (by decide))
  refine mv_pop d_TrustDeskLaw_law_324 rfl ?_
  refine mv_aload_n d_TrustDeskLaw_law_325 rfl rfl ?_
  refine lx_ld (k := 1) (c := 1) h0 hi hL (by decide) (by decide) d_TrustDeskLaw_law_326 d_TrustDeskLaw_law_327 (mv_iconst d_TrustDeskLaw_law_329 (by decide)) d_TrustDeskLaw_law_330 d_TrustDeskLaw_law_331 ?_
  refine lx_ld (k := 2) (c := 2) h0 hi hL (by decide) (by decide) d_TrustDeskLaw_law_332 d_TrustDeskLaw_law_333 (mv_iconst d_TrustDeskLaw_law_335 (by decide)) d_TrustDeskLaw_law_336 d_TrustDeskLaw_law_337 ?_
  refine lx_ld (k := 3) (c := 3) h0 hi hL (by decide) (by decide) d_TrustDeskLaw_law_338 d_TrustDeskLaw_law_339 (mv_iconst d_TrustDeskLaw_law_341 (by decide)) d_TrustDeskLaw_law_342 d_TrustDeskLaw_law_343 ?_
  refine lx_ld (k := 4) (c := 4) h0 hi hL (by decide) (by decide) d_TrustDeskLaw_law_344 d_TrustDeskLaw_law_345 (mv_iconst d_TrustDeskLaw_law_347 (by decide)) d_TrustDeskLaw_law_348 d_TrustDeskLaw_law_349 ?_
  refine lx_ld (k := 5) (c := 5) h0 hi hL (by decide) (by decide) d_TrustDeskLaw_law_350 d_TrustDeskLaw_law_351 (mv_iconst d_TrustDeskLaw_law_353 (by decide)) d_TrustDeskLaw_law_354 d_TrustDeskLaw_law_355 ?_
  obtain ⟨_, b13, -⟩ := LI10.1.1 _ _ LI10.2.2.1
  have hX22 := lx_X LI J8 rfl rfl rfl kM.1
  refine mv_callV (kc' := kc + 1100) (ks' := ks + 14000) (As := [.int (mj_xs g (i.toNatClampNeg + 1)), .int (mj_xs g (i.toNatClampNeg + 2)), .int (mj_xs g (i.toNatClampNeg + 3)), .int (mj_xs g (i.toNatClampNeg + 4)), .int (mj_xs g (i.toNatClampNeg + 5))]) (st9 := [.int (mj_xs g (i.toNatClampNeg + 5)), .int (mj_xs g (i.toNatClampNeg + 4)), .int (mj_xs g (i.toNatClampNeg + 3)), .int (mj_xs g (i.toNatClampNeg + 2)), .int (mj_xs g (i.toNatClampNeg + 1)), .ref 99]) d_TrustDeskLaw_law_356 lV_TrustDeskLaw_33 b13 rfl (tc_TrustDeskModel_feed_z (d := d + 27) (x9 := 0) (o0 := 99) (x1 := (mj_xs g (i.toNatClampNeg + 1))) (x2 := (mj_xs g (i.toNatClampNeg + 2))) (x3 := (mj_xs g (i.toNatClampNeg + 3))) (x4 := (mj_xs g (i.toNatClampNeg + 4))) (x5 := (mj_xs g (i.toNatClampNeg + 5))) LI10.2.2.1 LI10.2.2.2.2.2.2.2.2.2.1 hX22 LI10.1.start) rfl (Nat.le_of_ble_eq_true rfl) (by omega) (by omega) (hst := rfl) (fun r14 M15 n16 h17 => ?_)
  obtain ⟨T18, J19, v20, rfl, R24, f23⟩ := h17
  have LI21 := LI10.ref J19 (lx_ok (by decide)) (J19.keep LI10.2.2.1 rfl LI10.2.2.2.2.2.2.2.1) R24 (LI10.2.2.2.2.2.2.2.2.2.2.1.same (sA_c LI10.1 J19 LI10.2.2.1 (by decide +kernel)) (sF_c LI10.1 J19 LI10.2.2.1 (by decide +kernel))) (LI10.2.2.2.2.2.2.2.2.2.2.2.1.same (sA_c LI10.1 J19 LI10.2.2.1 (by decide +kernel)) (sF_c LI10.1 J19 LI10.2.2.1 (by decide +kernel))) (LI10.2.2.2.2.2.2.2.2.2.2.2.2.1.same (sA_c LI10.1 J19 LI10.2.2.1 (by decide +kernel)) (sF_c LI10.1 J19 LI10.2.2.1 (by decide +kernel))) (LI10.2.2.2.2.2.2.2.2.2.2.2.2.2.same (sA_c LI10.1 J19 LI10.2.2.1 (by decide +kernel)) (sF_c LI10.1 J19 LI10.2.2.1 (by decide +kernel)))
  have hr21 : rv M4 99 21 = vp.toInt := (rv_c LI.1 J8 LI.2.2.1 (k := 21) rfl).trans (kM.2.1.trans ep.symm)
  have hr27 : rv M4 99 27 = ka.toInt := (rv_c LI.1 J8 LI.2.2.1 (k := 27) rfl).trans (kM.2.2.1.trans lA.2.2.2.symm)
  have := LI10.2.2.2.2.2.2.2.2.2.1.1 27 _ _ rfl
  have hr32 : rv M4 99 32 = kf.toInt := (rv_c LI.1 J8 LI.2.2.1 (k := 32) rfl).trans (kM.2.2.2.1.trans lF.2.2.2.symm)
  have := LI10.2.2.2.2.2.2.2.2.2.1.1 32 _ _ rfl
  have hr49 : rv M4 99 49 = kn.toInt := (rv_c LI.1 J8 LI.2.2.1 (k := 49) rfl).trans (kM.2.2.2.2.1.trans lN.2.2.2.symm)
  have := LI10.2.2.2.2.2.2.2.2.2.1.1 49 _ _ rfl
  have hr53 : rv M4 99 53 = ks9.toInt := (rv_c LI.1 J8 LI.2.2.1 (k := 53) rfl).trans (kM.2.2.2.2.2.trans lS.2.2.2.symm)
  have := LI10.2.2.2.2.2.2.2.2.2.1.1 53 _ _ rfl
  obtain ⟨e9, pb1, pn1, z1, z4⟩ := lx_feed q11 f23
  have kD1 : lx_KD T7 M4 pb1 pn1 P9 A9 F9 N9 S9 := ⟨Rd, La, Lg, Ln, Ls, vp, ka, kf, kn, ks9, ⟨J8.up hR, J8.keep LI.2.1 rfl qR⟩, z1, ⟨J8.keep hR rfl yp, ep⟩, lA.keep LI J8 rfl rfl, lF.keep LI J8 rfl rfl, lN.keep LI J8 rfl rfl, lS.keep LI J8 rfl rfl⟩
  have k9 : lx_K T18 M15 n16 t := ⟨pb1, pn1, _, _, _, _, _, kD1.keep LI10 J19 (lx_ok (by decide)), z4, ((rv_c LI10.1 J19 LI10.2.2.1 (k := 21) rfl).trans ((rv_c LI.1 J8 LI.2.2.1 (k := 21) rfl).trans kM.2.1)), ((rv_c LI10.1 J19 LI10.2.2.1 (k := 27) rfl).trans ((rv_c LI.1 J8 LI.2.2.1 (k := 27) rfl).trans kM.2.2.1)), ((rv_c LI10.1 J19 LI10.2.2.1 (k := 32) rfl).trans ((rv_c LI.1 J8 LI.2.2.1 (k := 32) rfl).trans kM.2.2.2.1)), ((rv_c LI10.1 J19 LI10.2.2.1 (k := 49) rfl).trans ((rv_c LI.1 J8 LI.2.2.1 (k := 49) rfl).trans kM.2.2.2.2.1)), ((rv_c LI10.1 J19 LI10.2.2.1 (k := 53) rfl).trans ((rv_c LI.1 J8 LI.2.2.1 (k := 53) rfl).trans kM.2.2.2.2.2))⟩
  have e8 : v9.toInt = v20.toInt := e9
  refine mv_pop d_TrustDeskLaw_law_359 rfl ?_
  refine mv_goto (tgt := 1481) d_TrustDeskLaw_law_360 (by decide) ?_
  exact mv_less (by omega) (by omega) (kk _ _ _ _ LI21 k9)
theorem d_TrustDeskLaw_law_363 : decode kY_TrustDeskLaw_law.2.1 363 = .ok (.aload_n 1, 1) := by decide +kernel
theorem d_TrustDeskLaw_law_364 : decode kY_TrustDeskLaw_law.2.1 364 = .ok (.aload_n 0, 1) := by decide +kernel
theorem d_TrustDeskLaw_law_365 : decode kY_TrustDeskLaw_law.2.1 365 = .ok (.iload 4, 2) := by decide +kernel
theorem d_TrustDeskLaw_law_367 : decode kY_TrustDeskLaw_law.2.1 367 = .ok (.iconst 1, 1) := by decide +kernel
theorem d_TrustDeskLaw_law_368 : decode kY_TrustDeskLaw_law.2.1 368 = .ok (.iadd, 1) := by decide +kernel
theorem d_TrustDeskLaw_law_369 : decode kY_TrustDeskLaw_law.2.1 369 = .ok (.iaload, 1) := by decide +kernel
theorem d_TrustDeskLaw_law_370 : decode kY_TrustDeskLaw_law.2.1 370 = .ok (.invokevirtual 34, 3) := by decide +kernel
theorem lV_TrustDeskLaw_34 : mj_lV "TrustDeskLaw" 34 kY_TrustDesk_end 1 := ⟨⟨(mj_in1 (List.mem_of_getElem? (i := 341) (by decide +kernel)) rfl), (mj_in1 (List.mem_of_getElem? (i := 1) (by decide +kernel)) rfl), (mj_in1 (List.mem_of_getElem? (i := 344) (by decide +kernel)) rfl), by decide, rfl, by decide⟩, (mj_in1 (List.mem_of_getElem? (i := 342) (by decide +kernel)) rfl), (mj_in1 (List.mem_of_getElem? (i := 343) (by decide +kernel)) rfl)⟩
theorem d_TrustDeskLaw_law_373 : decode kY_TrustDeskLaw_law.2.1 373 = .ok (.pop, 1) := by decide +kernel
theorem d_TrustDeskLaw_law_374 : decode kY_TrustDeskLaw_law.2.1 374 = .ok (.aload_n 2, 1) := by decide +kernel
theorem d_TrustDeskLaw_law_375 : decode kY_TrustDeskLaw_law.2.1 375 = .ok (.aload_n 0, 1) := by decide +kernel
theorem d_TrustDeskLaw_law_376 : decode kY_TrustDeskLaw_law.2.1 376 = .ok (.iload 4, 2) := by decide +kernel
theorem d_TrustDeskLaw_law_378 : decode kY_TrustDeskLaw_law.2.1 378 = .ok (.iconst 1, 1) := by decide +kernel
theorem d_TrustDeskLaw_law_379 : decode kY_TrustDeskLaw_law.2.1 379 = .ok (.iadd, 1) := by decide +kernel
theorem d_TrustDeskLaw_law_380 : decode kY_TrustDeskLaw_law.2.1 380 = .ok (.iaload, 1) := by decide +kernel
theorem d_TrustDeskLaw_law_381 : decode kY_TrustDeskLaw_law.2.1 381 = .ok (.invokevirtual 38, 3) := by decide +kernel
theorem lV_TrustDeskLaw_38 : mj_lV "TrustDeskLaw" 38 kY_TrustDeskModel_end 1 := ⟨⟨(mj_in1 (List.mem_of_getElem? (i := 1631) (by decide +kernel)) rfl), (mj_in1 (List.mem_of_getElem? (i := 10) (by decide +kernel)) rfl), (mj_in1 (List.mem_of_getElem? (i := 1634) (by decide +kernel)) rfl), by decide, rfl, by decide⟩, (mj_in1 (List.mem_of_getElem? (i := 1632) (by decide +kernel)) rfl), (mj_in1 (List.mem_of_getElem? (i := 1633) (by decide +kernel)) rfl)⟩
theorem d_TrustDeskLaw_law_384 : decode kY_TrustDeskLaw_law.2.1 384 = .ok (.pop, 1) := by decide +kernel
theorem d_TrustDeskLaw_law_385 : decode kY_TrustDeskLaw_law.2.1 385 = .ok (.goto 1096, 3) := by decide +kernel
set_option maxHeartbeats 4000000 in
theorem lx_case_3 {g : mj_G} {l : Launch} {d n Lf kc ks : Nat} {T : tm_H} {M : mj_M} {i t : Int32} (hlt : l.stackTraces = false) (h0 : 0 ≤ i.toInt) (hi : i.toInt + 6 ≤ (mj_L g : Int)) (hL : mj_L g ≤ 3072) (LI : lx_I T M n Lf t t) (k0 : lx_K T M n t) (kk : ∀ (T1 : tm_H) (M1 : mj_M) (n1 : Nat) (t1 : Int32), lx_I T1 M1 n1 Lf t1 t1 → lx_K T1 M1 n1 t1 → mj_V g l kY_TrustDeskLaw_law (d + 28) 1481 (lx_lv i) [] M1 n1 kc ks lx_Q) : mj_V g l kY_TrustDeskLaw_law (d + 28) 363 (lx_lv i) [] M n (kc + 1100) (ks + 14000) lx_Q := by
  refine mv_aload_n d_TrustDeskLaw_law_363 rfl rfl ?_
  refine lx_ld (k := 1) (c := 1) h0 hi hL (by decide) (by decide) d_TrustDeskLaw_law_364 d_TrustDeskLaw_law_365 (mv_iconst d_TrustDeskLaw_law_367 (by decide)) d_TrustDeskLaw_law_368 d_TrustDeskLaw_law_369 ?_
  obtain ⟨_, b2, -⟩ := LI.1.1 _ _ LI.2.1
  obtain ⟨pb, pn, P9, A9, F9, N9, S9, kD, kM⟩ := id k0
  obtain ⟨Rd, La, Lg, Ln, Ls, vp, ka, kf, kn, ks9, ⟨hR, qR⟩, yB, ⟨yp, ep⟩, lA, lF, lN, lS⟩ := id kD
  obtain ⟨z0, yz0⟩ := tm_atI (k := 0) LI.1 hR rfl
  refine mv_callV (kc' := kc + 1100) (ks' := ks + 14000) (As := [.int (mj_xs g (i.toNatClampNeg + 1))]) (st9 := [.int (mj_xs g (i.toNatClampNeg + 1)), .ref 64]) d_TrustDeskLaw_law_370 lV_TrustDeskLaw_34 b2 rfl (tc_TrustDesk_end_r (d := d + 27) (x9 := 0) (o0 := 64) (x1 := (mj_xs g (i.toNatClampNeg + 1))) LI.2.1 hR qR yz0 ((tm_rv yz0).symm.trans yB.1) LI.1.start) rfl (Nat.le_of_ble_eq_true rfl) (by omega) (by omega) (hst := rfl) (fun r3 M4 n5 h6 => ?_)
  obtain ⟨T7, J8, v9, rfl, q11⟩ := h6
  have LI10 := LI.desk J8 (lx_ok (by decide))
  refine mv_pop d_TrustDeskLaw_law_373 rfl ?_
  refine mv_aload_n d_TrustDeskLaw_law_374 rfl rfl ?_
  refine lx_ld (k := 1) (c := 1) h0 hi hL (by decide) (by decide) d_TrustDeskLaw_law_375 d_TrustDeskLaw_law_376 (mv_iconst d_TrustDeskLaw_law_378 (by decide)) d_TrustDeskLaw_law_379 d_TrustDeskLaw_law_380 ?_
  obtain ⟨_, b13, -⟩ := LI10.1.1 _ _ LI10.2.2.1
  have hX22 := lx_X LI J8 rfl rfl rfl kM.1
  refine mv_callV (kc' := kc + 1100) (ks' := ks + 14000) (As := [.int (mj_xs g (i.toNatClampNeg + 1))]) (st9 := [.int (mj_xs g (i.toNatClampNeg + 1)), .ref 99]) d_TrustDeskLaw_law_381 lV_TrustDeskLaw_38 b13 rfl (tc_TrustDeskModel_end_z (d := d + 27) (x9 := 0) (o0 := 99) (x1 := (mj_xs g (i.toNatClampNeg + 1))) LI10.2.2.1 LI10.2.2.2.2.2.2.2.2.2.1 LI10.1.start) rfl (Nat.le_of_ble_eq_true rfl) (by omega) (by omega) (hst := rfl) (fun r14 M15 n16 h17 => ?_)
  obtain ⟨T18, J19, v20, rfl, R24, f23⟩ := h17
  have LI21 := LI10.ref J19 (lx_ok (by decide)) (J19.keep LI10.2.2.1 rfl LI10.2.2.2.2.2.2.2.1) R24 (LI10.2.2.2.2.2.2.2.2.2.2.1.same (sA_c LI10.1 J19 LI10.2.2.1 (by decide +kernel)) (sF_c LI10.1 J19 LI10.2.2.1 (by decide +kernel))) (LI10.2.2.2.2.2.2.2.2.2.2.2.1.same (sA_c LI10.1 J19 LI10.2.2.1 (by decide +kernel)) (sF_c LI10.1 J19 LI10.2.2.1 (by decide +kernel))) (LI10.2.2.2.2.2.2.2.2.2.2.2.2.1.same (sA_c LI10.1 J19 LI10.2.2.1 (by decide +kernel)) (sF_c LI10.1 J19 LI10.2.2.1 (by decide +kernel))) (LI10.2.2.2.2.2.2.2.2.2.2.2.2.2.same (sA_c LI10.1 J19 LI10.2.2.1 (by decide +kernel)) (sF_c LI10.1 J19 LI10.2.2.1 (by decide +kernel)))
  have hr21 : rv M4 99 21 = vp.toInt := (rv_c LI.1 J8 LI.2.2.1 (k := 21) rfl).trans (kM.2.1.trans ep.symm)
  have hr27 : rv M4 99 27 = ka.toInt := (rv_c LI.1 J8 LI.2.2.1 (k := 27) rfl).trans (kM.2.2.1.trans lA.2.2.2.symm)
  have := LI10.2.2.2.2.2.2.2.2.2.1.1 27 _ _ rfl
  have hr32 : rv M4 99 32 = kf.toInt := (rv_c LI.1 J8 LI.2.2.1 (k := 32) rfl).trans (kM.2.2.2.1.trans lF.2.2.2.symm)
  have := LI10.2.2.2.2.2.2.2.2.2.1.1 32 _ _ rfl
  have hr49 : rv M4 99 49 = kn.toInt := (rv_c LI.1 J8 LI.2.2.1 (k := 49) rfl).trans (kM.2.2.2.2.1.trans lN.2.2.2.symm)
  have := LI10.2.2.2.2.2.2.2.2.2.1.1 49 _ _ rfl
  have hr53 : rv M4 99 53 = ks9.toInt := (rv_c LI.1 J8 LI.2.2.1 (k := 53) rfl).trans (kM.2.2.2.2.2.trans lS.2.2.2.symm)
  have := LI10.2.2.2.2.2.2.2.2.2.1.1 53 _ _ rfl
  obtain ⟨e9, pn1, z1, z4⟩ := lx_end rfl yB.2.1 yB.2.2.1 ((tm_rv yz0).symm.trans yB.1) (fun i hi => (ra_9 (k := 3) LI.1.1 J8 hR rfl rfl rfl i).trans (yB.2.2.2 i hi)) q11 f23 hX22 (ra_call LI10.1 J19 LI10.2.2.1 (k := 13) rfl rfl rfl)
  have kD1 : lx_KD T7 M4 pb pn1 P9 A9 F9 N9 S9 := ⟨Rd, La, Lg, Ln, Ls, vp, ka, kf, kn, ks9, ⟨J8.up hR, J8.keep LI.2.1 rfl qR⟩, z1, ⟨J8.keep hR rfl yp, ep⟩, lA.keep LI J8 rfl rfl, lF.keep LI J8 rfl rfl, lN.keep LI J8 rfl rfl, lS.keep LI J8 rfl rfl⟩
  have k9 : lx_K T18 M15 n16 t := ⟨pb, pn1, _, _, _, _, _, kD1.keep LI10 J19 (lx_ok (by decide)), z4, ((rv_c LI10.1 J19 LI10.2.2.1 (k := 21) rfl).trans ((rv_c LI.1 J8 LI.2.2.1 (k := 21) rfl).trans kM.2.1)), ((rv_c LI10.1 J19 LI10.2.2.1 (k := 27) rfl).trans ((rv_c LI.1 J8 LI.2.2.1 (k := 27) rfl).trans kM.2.2.1)), ((rv_c LI10.1 J19 LI10.2.2.1 (k := 32) rfl).trans ((rv_c LI.1 J8 LI.2.2.1 (k := 32) rfl).trans kM.2.2.2.1)), ((rv_c LI10.1 J19 LI10.2.2.1 (k := 49) rfl).trans ((rv_c LI.1 J8 LI.2.2.1 (k := 49) rfl).trans kM.2.2.2.2.1)), ((rv_c LI10.1 J19 LI10.2.2.1 (k := 53) rfl).trans ((rv_c LI.1 J8 LI.2.2.1 (k := 53) rfl).trans kM.2.2.2.2.2))⟩
  have e8 : v9.toInt = v20.toInt := e9
  refine mv_pop d_TrustDeskLaw_law_384 rfl ?_
  refine mv_goto (tgt := 1481) d_TrustDeskLaw_law_385 (by decide) ?_
  exact mv_less (by omega) (by omega) (kk _ _ _ _ LI21 k9)
theorem d_TrustDeskLaw_law_388 : decode kY_TrustDeskLaw_law.2.1 388 = .ok (.aload_n 1, 1) := by decide +kernel
theorem d_TrustDeskLaw_law_389 : decode kY_TrustDeskLaw_law.2.1 389 = .ok (.aload_n 0, 1) := by decide +kernel
theorem d_TrustDeskLaw_law_390 : decode kY_TrustDeskLaw_law.2.1 390 = .ok (.iload 4, 2) := by decide +kernel
theorem d_TrustDeskLaw_law_392 : decode kY_TrustDeskLaw_law.2.1 392 = .ok (.iconst 1, 1) := by decide +kernel
theorem d_TrustDeskLaw_law_393 : decode kY_TrustDeskLaw_law.2.1 393 = .ok (.iadd, 1) := by decide +kernel
theorem d_TrustDeskLaw_law_394 : decode kY_TrustDeskLaw_law.2.1 394 = .ok (.iaload, 1) := by decide +kernel
theorem d_TrustDeskLaw_law_395 : decode kY_TrustDeskLaw_law.2.1 395 = .ok (.invokevirtual 39, 3) := by decide +kernel
theorem lV_TrustDeskLaw_39 : mj_lV "TrustDeskLaw" 39 kY_TrustDesk_act 1 := ⟨⟨(mj_in1 (List.mem_of_getElem? (i := 345) (by decide +kernel)) rfl), (mj_in1 (List.mem_of_getElem? (i := 1) (by decide +kernel)) rfl), (mj_in1 (List.mem_of_getElem? (i := 348) (by decide +kernel)) rfl), by decide, rfl, by decide⟩, (mj_in1 (List.mem_of_getElem? (i := 346) (by decide +kernel)) rfl), (mj_in1 (List.mem_of_getElem? (i := 347) (by decide +kernel)) rfl)⟩
theorem d_TrustDeskLaw_law_398 : decode kY_TrustDeskLaw_law.2.1 398 = .ok (.pop, 1) := by decide +kernel
theorem d_TrustDeskLaw_law_399 : decode kY_TrustDeskLaw_law.2.1 399 = .ok (.aload_n 2, 1) := by decide +kernel
theorem d_TrustDeskLaw_law_400 : decode kY_TrustDeskLaw_law.2.1 400 = .ok (.aload_n 0, 1) := by decide +kernel
theorem d_TrustDeskLaw_law_401 : decode kY_TrustDeskLaw_law.2.1 401 = .ok (.iload 4, 2) := by decide +kernel
theorem d_TrustDeskLaw_law_403 : decode kY_TrustDeskLaw_law.2.1 403 = .ok (.iconst 1, 1) := by decide +kernel
theorem d_TrustDeskLaw_law_404 : decode kY_TrustDeskLaw_law.2.1 404 = .ok (.iadd, 1) := by decide +kernel
theorem d_TrustDeskLaw_law_405 : decode kY_TrustDeskLaw_law.2.1 405 = .ok (.iaload, 1) := by decide +kernel
theorem d_TrustDeskLaw_law_406 : decode kY_TrustDeskLaw_law.2.1 406 = .ok (.invokevirtual 42, 3) := by decide +kernel
theorem lV_TrustDeskLaw_42 : mj_lV "TrustDeskLaw" 42 kY_TrustDeskModel_act 1 := ⟨⟨(mj_in1 (List.mem_of_getElem? (i := 1639) (by decide +kernel)) rfl), (mj_in1 (List.mem_of_getElem? (i := 10) (by decide +kernel)) rfl), (mj_in1 (List.mem_of_getElem? (i := 1642) (by decide +kernel)) rfl), by decide, rfl, by decide⟩, (mj_in1 (List.mem_of_getElem? (i := 1640) (by decide +kernel)) rfl), (mj_in1 (List.mem_of_getElem? (i := 1641) (by decide +kernel)) rfl)⟩
theorem d_TrustDeskLaw_law_409 : decode kY_TrustDeskLaw_law.2.1 409 = .ok (.pop, 1) := by decide +kernel
theorem d_TrustDeskLaw_law_410 : decode kY_TrustDeskLaw_law.2.1 410 = .ok (.goto 1071, 3) := by decide +kernel
set_option maxHeartbeats 4000000 in
theorem lx_case_4 {g : mj_G} {l : Launch} {d n Lf kc ks : Nat} {T : tm_H} {M : mj_M} {i t : Int32} (hlt : l.stackTraces = false) (h0 : 0 ≤ i.toInt) (hi : i.toInt + 6 ≤ (mj_L g : Int)) (hL : mj_L g ≤ 3072) (LI : lx_I T M n Lf t t) (k0 : lx_K T M n t) (kk : ∀ (T1 : tm_H) (M1 : mj_M) (n1 : Nat) (t1 : Int32), lx_I T1 M1 n1 Lf t1 t1 → lx_K T1 M1 n1 t1 → mj_V g l kY_TrustDeskLaw_law (d + 28) 1481 (lx_lv i) [] M1 n1 kc ks lx_Q) : mj_V g l kY_TrustDeskLaw_law (d + 28) 388 (lx_lv i) [] M n (kc + 1100) (ks + 14000) lx_Q := by
  refine mv_aload_n d_TrustDeskLaw_law_388 rfl rfl ?_
  refine lx_ld (k := 1) (c := 1) h0 hi hL (by decide) (by decide) d_TrustDeskLaw_law_389 d_TrustDeskLaw_law_390 (mv_iconst d_TrustDeskLaw_law_392 (by decide)) d_TrustDeskLaw_law_393 d_TrustDeskLaw_law_394 ?_
  obtain ⟨_, b2, -⟩ := LI.1.1 _ _ LI.2.1
  obtain ⟨pb, pn, P9, A9, F9, N9, S9, kD, kM⟩ := id k0
  obtain ⟨Rd, La, Lg, Ln, Ls, vp, ka, kf, kn, ks9, ⟨hR, qR⟩, yB, ⟨yp, ep⟩, lA, lF, lN, lS⟩ := id kD
  refine mv_callV (kc' := kc + 1029) (ks' := ks + 3796) (As := [.int (mj_xs g (i.toNatClampNeg + 1))]) (st9 := [.int (mj_xs g (i.toNatClampNeg + 1)), .ref 64]) d_TrustDeskLaw_law_395 lV_TrustDeskLaw_39 b2 rfl (tc_TrustDesk_act_r (d := d + 4) (x9 := 0) (o0 := 64) (x1 := (mj_xs g (i.toNatClampNeg + 1))) LI.2.1 hR qR yB yp lA.1 lA.2.1 lA.2.2.1 LI.1.start) rfl (Nat.le_of_ble_eq_true rfl) (by omega) (by omega) (hst := rfl) (fun r3 M4 n5 h6 => ?_)
  obtain ⟨T7, J8, v9, rfl, q11⟩ := h6
  have LI10 := LI.desk J8 (lx_ok (by decide))
  refine mv_pop d_TrustDeskLaw_law_398 rfl ?_
  refine mv_aload_n d_TrustDeskLaw_law_399 rfl rfl ?_
  refine lx_ld (k := 1) (c := 1) h0 hi hL (by decide) (by decide) d_TrustDeskLaw_law_400 d_TrustDeskLaw_law_401 (mv_iconst d_TrustDeskLaw_law_403 (by decide)) d_TrustDeskLaw_law_404 d_TrustDeskLaw_law_405 ?_
  obtain ⟨_, b13, -⟩ := LI10.1.1 _ _ LI10.2.2.1
  have hX22 := lx_X LI J8 rfl rfl rfl kM.1
  refine mv_callV (kc' := kc + 1029) (ks' := ks + 3796) (As := [.int (mj_xs g (i.toNatClampNeg + 1))]) (st9 := [.int (mj_xs g (i.toNatClampNeg + 1)), .ref 99]) d_TrustDeskLaw_law_406 lV_TrustDeskLaw_42 b13 rfl (tc_TrustDeskModel_act_x (d := d + 1) (x9 := 0) (o0 := 99) (x1 := (mj_xs g (i.toNatClampNeg + 1))) LI10.2.2.1 LI10.2.2.2.2.2.2.2.2.2.1 LI10.2.2.2.2.2.2.2.2.2.2.1 hX22 LI10.1.start) rfl (Nat.le_of_ble_eq_true rfl) (by omega) (by omega) (hst := rfl) (fun r14 M15 n16 h17 => ?_)
  obtain ⟨T18, J19, v20, rfl, R25, f23, f24⟩ := h17
  have LI21 := LI10.ref J19 (lx_ok (by decide)) (J19.keep LI10.2.2.1 rfl LI10.2.2.2.2.2.2.2.1) R25 f23 (LI10.2.2.2.2.2.2.2.2.2.2.2.1.same (sA_c LI10.1 J19 LI10.2.2.1 (by decide +kernel)) (sF_c LI10.1 J19 LI10.2.2.1 (by decide +kernel))) (LI10.2.2.2.2.2.2.2.2.2.2.2.2.1.same (sA_c LI10.1 J19 LI10.2.2.1 (by decide +kernel)) (sF_c LI10.1 J19 LI10.2.2.1 (by decide +kernel))) (LI10.2.2.2.2.2.2.2.2.2.2.2.2.2.same (sA_c LI10.1 J19 LI10.2.2.1 (by decide +kernel)) (sF_c LI10.1 J19 LI10.2.2.1 (by decide +kernel)))
  have hr21 : rv M4 99 21 = vp.toInt := (rv_c LI.1 J8 LI.2.2.1 (k := 21) rfl).trans (kM.2.1.trans ep.symm)
  have hr27 : rv M4 99 27 = ka.toInt := (rv_c LI.1 J8 LI.2.2.1 (k := 27) rfl).trans (kM.2.2.1.trans lA.2.2.2.symm)
  have := LI10.2.2.2.2.2.2.2.2.2.1.1 27 _ _ rfl
  have hr32 : rv M4 99 32 = kf.toInt := (rv_c LI.1 J8 LI.2.2.1 (k := 32) rfl).trans (kM.2.2.2.1.trans lF.2.2.2.symm)
  have := LI10.2.2.2.2.2.2.2.2.2.1.1 32 _ _ rfl
  have hr49 : rv M4 99 49 = kn.toInt := (rv_c LI.1 J8 LI.2.2.1 (k := 49) rfl).trans (kM.2.2.2.2.1.trans lN.2.2.2.symm)
  have := LI10.2.2.2.2.2.2.2.2.2.1.1 49 _ _ rfl
  have hr53 : rv M4 99 53 = ks9.toInt := (rv_c LI.1 J8 LI.2.2.1 (k := 53) rfl).trans (kM.2.2.2.2.2.trans lS.2.2.2.symm)
  have := LI10.2.2.2.2.2.2.2.2.2.1.1 53 _ _ rfl
  obtain ⟨e9, pn1, vp1, k1, z1, z2, z3, z4, z5, z6⟩ := lx_text (cf := 27) yB.2.2.1 q11 f24 ⟨fun h => by omega, fun h => by omega⟩ rfl hX22 hr21 hr27 (ra_call LI10.1 J19 LI10.2.2.1 (k := 13) rfl rfl rfl)
  have kD1 : lx_KD T7 M4 pb pn1 vp1.toInt k1.toInt F9 N9 S9 := ⟨Rd, La, Lg, Ln, Ls, vp1, k1, kf, kn, ks9, ⟨J8.up hR, J8.keep LI.2.1 rfl qR⟩, z1, ⟨z2, rfl⟩, ⟨J8.up lA.1, J8.keep LI.2.1 rfl lA.2.1, z3, rfl⟩, lF.keep LI J8 rfl rfl, lN.keep LI J8 rfl rfl, lS.keep LI J8 rfl rfl⟩
  have k9 : lx_K T18 M15 n16 t := ⟨pb, pn1, _, _, _, _, _, kD1.keep LI10 J19 (lx_ok (by decide)), z4, z5, z6, ((rv_c LI10.1 J19 LI10.2.2.1 (k := 32) rfl).trans ((rv_c LI.1 J8 LI.2.2.1 (k := 32) rfl).trans kM.2.2.2.1)), ((rv_c LI10.1 J19 LI10.2.2.1 (k := 49) rfl).trans ((rv_c LI.1 J8 LI.2.2.1 (k := 49) rfl).trans kM.2.2.2.2.1)), ((rv_c LI10.1 J19 LI10.2.2.1 (k := 53) rfl).trans ((rv_c LI.1 J8 LI.2.2.1 (k := 53) rfl).trans kM.2.2.2.2.2))⟩
  have e8 : v9.toInt = v20.toInt := e9
  refine mv_pop d_TrustDeskLaw_law_409 rfl ?_
  refine mv_goto (tgt := 1481) d_TrustDeskLaw_law_410 (by decide) ?_
  exact mv_less (by omega) (by omega) (kk _ _ _ _ LI21 k9)
theorem d_TrustDeskLaw_law_413 : decode kY_TrustDeskLaw_law.2.1 413 = .ok (.aload_n 1, 1) := by decide +kernel
theorem d_TrustDeskLaw_law_414 : decode kY_TrustDeskLaw_law.2.1 414 = .ok (.aload_n 0, 1) := by decide +kernel
theorem d_TrustDeskLaw_law_415 : decode kY_TrustDeskLaw_law.2.1 415 = .ok (.iload 4, 2) := by decide +kernel
theorem d_TrustDeskLaw_law_417 : decode kY_TrustDeskLaw_law.2.1 417 = .ok (.iconst 1, 1) := by decide +kernel
theorem d_TrustDeskLaw_law_418 : decode kY_TrustDeskLaw_law.2.1 418 = .ok (.iadd, 1) := by decide +kernel
theorem d_TrustDeskLaw_law_419 : decode kY_TrustDeskLaw_law.2.1 419 = .ok (.iaload, 1) := by decide +kernel
theorem d_TrustDeskLaw_law_420 : decode kY_TrustDeskLaw_law.2.1 420 = .ok (.aload_n 0, 1) := by decide +kernel
theorem d_TrustDeskLaw_law_421 : decode kY_TrustDeskLaw_law.2.1 421 = .ok (.iload 4, 2) := by decide +kernel
theorem d_TrustDeskLaw_law_423 : decode kY_TrustDeskLaw_law.2.1 423 = .ok (.iconst 2, 1) := by decide +kernel
theorem d_TrustDeskLaw_law_424 : decode kY_TrustDeskLaw_law.2.1 424 = .ok (.iadd, 1) := by decide +kernel
theorem d_TrustDeskLaw_law_425 : decode kY_TrustDeskLaw_law.2.1 425 = .ok (.iaload, 1) := by decide +kernel
theorem d_TrustDeskLaw_law_426 : decode kY_TrustDeskLaw_law.2.1 426 = .ok (.invokevirtual 43, 3) := by decide +kernel
theorem lV_TrustDeskLaw_43 : mj_lV "TrustDeskLaw" 43 kY_TrustDesk_holds 2 := ⟨⟨(mj_in1 (List.mem_of_getElem? (i := 626) (by decide +kernel)) rfl), (mj_in1 (List.mem_of_getElem? (i := 1) (by decide +kernel)) rfl), (mj_in1 (List.mem_of_getElem? (i := 629) (by decide +kernel)) rfl), by decide, rfl, by decide⟩, (mj_in1 (List.mem_of_getElem? (i := 627) (by decide +kernel)) rfl), (mj_in1 (List.mem_of_getElem? (i := 628) (by decide +kernel)) rfl)⟩
theorem d_TrustDeskLaw_law_429 : decode kY_TrustDeskLaw_law.2.1 429 = .ok (.pop, 1) := by decide +kernel
theorem d_TrustDeskLaw_law_430 : decode kY_TrustDeskLaw_law.2.1 430 = .ok (.aload_n 2, 1) := by decide +kernel
theorem d_TrustDeskLaw_law_431 : decode kY_TrustDeskLaw_law.2.1 431 = .ok (.aload_n 0, 1) := by decide +kernel
theorem d_TrustDeskLaw_law_432 : decode kY_TrustDeskLaw_law.2.1 432 = .ok (.iload 4, 2) := by decide +kernel
theorem d_TrustDeskLaw_law_434 : decode kY_TrustDeskLaw_law.2.1 434 = .ok (.iconst 1, 1) := by decide +kernel
theorem d_TrustDeskLaw_law_435 : decode kY_TrustDeskLaw_law.2.1 435 = .ok (.iadd, 1) := by decide +kernel
theorem d_TrustDeskLaw_law_436 : decode kY_TrustDeskLaw_law.2.1 436 = .ok (.iaload, 1) := by decide +kernel
theorem d_TrustDeskLaw_law_437 : decode kY_TrustDeskLaw_law.2.1 437 = .ok (.aload_n 0, 1) := by decide +kernel
theorem d_TrustDeskLaw_law_438 : decode kY_TrustDeskLaw_law.2.1 438 = .ok (.iload 4, 2) := by decide +kernel
theorem d_TrustDeskLaw_law_440 : decode kY_TrustDeskLaw_law.2.1 440 = .ok (.iconst 2, 1) := by decide +kernel
theorem d_TrustDeskLaw_law_441 : decode kY_TrustDeskLaw_law.2.1 441 = .ok (.iadd, 1) := by decide +kernel
theorem d_TrustDeskLaw_law_442 : decode kY_TrustDeskLaw_law.2.1 442 = .ok (.iaload, 1) := by decide +kernel
theorem d_TrustDeskLaw_law_443 : decode kY_TrustDeskLaw_law.2.1 443 = .ok (.invokevirtual 46, 3) := by decide +kernel
theorem lV_TrustDeskLaw_46 : mj_lV "TrustDeskLaw" 46 kY_TrustDeskModel_holds 2 := ⟨⟨(mj_in1 (List.mem_of_getElem? (i := 1776) (by decide +kernel)) rfl), (mj_in1 (List.mem_of_getElem? (i := 10) (by decide +kernel)) rfl), (mj_in1 (List.mem_of_getElem? (i := 1779) (by decide +kernel)) rfl), by decide, rfl, by decide⟩, (mj_in1 (List.mem_of_getElem? (i := 1777) (by decide +kernel)) rfl), (mj_in1 (List.mem_of_getElem? (i := 1778) (by decide +kernel)) rfl)⟩
theorem d_TrustDeskLaw_law_446 : decode kY_TrustDeskLaw_law.2.1 446 = .ok (.pop, 1) := by decide +kernel
theorem d_TrustDeskLaw_law_447 : decode kY_TrustDeskLaw_law.2.1 447 = .ok (.goto 1034, 3) := by decide +kernel
set_option maxHeartbeats 4000000 in
theorem lx_case_5 {g : mj_G} {l : Launch} {d n Lf kc ks : Nat} {T : tm_H} {M : mj_M} {i t : Int32} (hlt : l.stackTraces = false) (h0 : 0 ≤ i.toInt) (hi : i.toInt + 6 ≤ (mj_L g : Int)) (hL : mj_L g ≤ 3072) (LI : lx_I T M n Lf t t) (k0 : lx_K T M n t) (kk : ∀ (T1 : tm_H) (M1 : mj_M) (n1 : Nat) (t1 : Int32), lx_I T1 M1 n1 Lf t1 t1 → lx_K T1 M1 n1 t1 → mj_V g l kY_TrustDeskLaw_law (d + 28) 1481 (lx_lv i) [] M1 n1 kc ks lx_Q) : mj_V g l kY_TrustDeskLaw_law (d + 28) 413 (lx_lv i) [] M n (kc + 1100) (ks + 14000) lx_Q := by
  refine mv_aload_n d_TrustDeskLaw_law_413 rfl rfl ?_
  refine lx_ld (k := 1) (c := 1) h0 hi hL (by decide) (by decide) d_TrustDeskLaw_law_414 d_TrustDeskLaw_law_415 (mv_iconst d_TrustDeskLaw_law_417 (by decide)) d_TrustDeskLaw_law_418 d_TrustDeskLaw_law_419 ?_
  refine lx_ld (k := 2) (c := 2) h0 hi hL (by decide) (by decide) d_TrustDeskLaw_law_420 d_TrustDeskLaw_law_421 (mv_iconst d_TrustDeskLaw_law_423 (by decide)) d_TrustDeskLaw_law_424 d_TrustDeskLaw_law_425 ?_
  obtain ⟨_, b2, -⟩ := LI.1.1 _ _ LI.2.1
  refine mv_callV (kc' := kc + 1100) (ks' := ks + 14000) (As := [.int (mj_xs g (i.toNatClampNeg + 1)), .int (mj_xs g (i.toNatClampNeg + 2))]) (st9 := [.int (mj_xs g (i.toNatClampNeg + 2)), .int (mj_xs g (i.toNatClampNeg + 1)), .ref 64]) d_TrustDeskLaw_law_426 lV_TrustDeskLaw_43 b2 rfl (tc_TrustDesk_holds (d := d + 23) (x9 := 0) (o0 := 64) (x1 := (mj_xs g (i.toNatClampNeg + 1))) (x2 := (mj_xs g (i.toNatClampNeg + 2))) LI.2.1 LI.1.start) rfl (Nat.le_of_ble_eq_true rfl) (by omega) (by omega) (hst := rfl) (fun r3 M4 n5 h6 => ?_)
  obtain ⟨T7, J8, v9, rfl⟩ := h6
  have LI10 := LI.desk J8 (lx_ok (by decide))
  have k1 := lx_Kkeep LI J8 (lx_ok (by decide)) k0
  refine mv_pop d_TrustDeskLaw_law_429 rfl ?_
  refine mv_aload_n d_TrustDeskLaw_law_430 rfl rfl ?_
  refine lx_ld (k := 1) (c := 1) h0 hi hL (by decide) (by decide) d_TrustDeskLaw_law_431 d_TrustDeskLaw_law_432 (mv_iconst d_TrustDeskLaw_law_434 (by decide)) d_TrustDeskLaw_law_435 d_TrustDeskLaw_law_436 ?_
  refine lx_ld (k := 2) (c := 2) h0 hi hL (by decide) (by decide) d_TrustDeskLaw_law_437 d_TrustDeskLaw_law_438 (mv_iconst d_TrustDeskLaw_law_440 (by decide)) d_TrustDeskLaw_law_441 d_TrustDeskLaw_law_442 ?_
  obtain ⟨_, b12, -⟩ := LI10.1.1 _ _ LI10.2.2.1
  refine mv_callV (kc' := kc + 1100) (ks' := ks + 14000) (As := [.int (mj_xs g (i.toNatClampNeg + 1)), .int (mj_xs g (i.toNatClampNeg + 2))]) (st9 := [.int (mj_xs g (i.toNatClampNeg + 2)), .int (mj_xs g (i.toNatClampNeg + 1)), .ref 99]) d_TrustDeskLaw_law_443 lV_TrustDeskLaw_46 b12 rfl (tc_TrustDeskModel_holds_x (d := d + 25) (x9 := 0) (o0 := 99) (x1 := (mj_xs g (i.toNatClampNeg + 1))) (x2 := (mj_xs g (i.toNatClampNeg + 2))) LI10.2.2.1 LI10.2.2.2.2.2.2.2.2.2.1 LI10.2.2.2.2.2.2.2.2.2.2.1.2.2.1 LI10.1.start) rfl (Nat.le_of_ble_eq_true rfl) (by omega) (by omega) (hst := rfl) (fun r13 M14 n15 h16 => ?_)
  obtain ⟨T17, J18, v19, rfl, R21⟩ := h16
  have LI20 := LI10.ref J18 (lx_ok (by decide)) (J18.keep LI10.2.2.1 rfl LI10.2.2.2.2.2.2.2.1) R21 (LI10.2.2.2.2.2.2.2.2.2.2.1.same (sA_c LI10.1 J18 LI10.2.2.1 (by decide +kernel)) (sF_c LI10.1 J18 LI10.2.2.1 (by decide +kernel))) (LI10.2.2.2.2.2.2.2.2.2.2.2.1.same (sA_c LI10.1 J18 LI10.2.2.1 (by decide +kernel)) (sF_c LI10.1 J18 LI10.2.2.1 (by decide +kernel))) (LI10.2.2.2.2.2.2.2.2.2.2.2.2.1.same (sA_c LI10.1 J18 LI10.2.2.1 (by decide +kernel)) (sF_c LI10.1 J18 LI10.2.2.1 (by decide +kernel))) (LI10.2.2.2.2.2.2.2.2.2.2.2.2.2.same (sA_c LI10.1 J18 LI10.2.2.1 (by decide +kernel)) (sF_c LI10.1 J18 LI10.2.2.1 (by decide +kernel)))
  have k11 := lx_Kkeep LI10 J18 (lx_ok (by decide)) k1
  refine mv_pop d_TrustDeskLaw_law_446 rfl ?_
  refine mv_goto (tgt := 1481) d_TrustDeskLaw_law_447 (by decide) ?_
  exact mv_less (by omega) (by omega) (kk _ _ _ _ LI20 k11)
theorem d_TrustDeskLaw_law_450 : decode kY_TrustDeskLaw_law.2.1 450 = .ok (.aload_n 1, 1) := by decide +kernel
theorem d_TrustDeskLaw_law_451 : decode kY_TrustDeskLaw_law.2.1 451 = .ok (.aload_n 0, 1) := by decide +kernel
theorem d_TrustDeskLaw_law_452 : decode kY_TrustDeskLaw_law.2.1 452 = .ok (.iload 4, 2) := by decide +kernel
theorem d_TrustDeskLaw_law_454 : decode kY_TrustDeskLaw_law.2.1 454 = .ok (.iconst 1, 1) := by decide +kernel
theorem d_TrustDeskLaw_law_455 : decode kY_TrustDeskLaw_law.2.1 455 = .ok (.iadd, 1) := by decide +kernel
theorem d_TrustDeskLaw_law_456 : decode kY_TrustDeskLaw_law.2.1 456 = .ok (.iaload, 1) := by decide +kernel
theorem d_TrustDeskLaw_law_457 : decode kY_TrustDeskLaw_law.2.1 457 = .ok (.aload_n 0, 1) := by decide +kernel
theorem d_TrustDeskLaw_law_458 : decode kY_TrustDeskLaw_law.2.1 458 = .ok (.iload 4, 2) := by decide +kernel
theorem d_TrustDeskLaw_law_460 : decode kY_TrustDeskLaw_law.2.1 460 = .ok (.iconst 2, 1) := by decide +kernel
theorem d_TrustDeskLaw_law_461 : decode kY_TrustDeskLaw_law.2.1 461 = .ok (.iadd, 1) := by decide +kernel
theorem d_TrustDeskLaw_law_462 : decode kY_TrustDeskLaw_law.2.1 462 = .ok (.iaload, 1) := by decide +kernel
theorem d_TrustDeskLaw_law_463 : decode kY_TrustDeskLaw_law.2.1 463 = .ok (.invokevirtual 47, 3) := by decide +kernel
theorem lV_TrustDeskLaw_47 : mj_lV "TrustDeskLaw" 47 kY_TrustDesk_fund 2 := ⟨⟨(mj_in1 (List.mem_of_getElem? (i := 650) (by decide +kernel)) rfl), (mj_in1 (List.mem_of_getElem? (i := 1) (by decide +kernel)) rfl), (mj_in1 (List.mem_of_getElem? (i := 653) (by decide +kernel)) rfl), by decide, rfl, by decide⟩, (mj_in1 (List.mem_of_getElem? (i := 651) (by decide +kernel)) rfl), (mj_in1 (List.mem_of_getElem? (i := 652) (by decide +kernel)) rfl)⟩
theorem d_TrustDeskLaw_law_466 : decode kY_TrustDeskLaw_law.2.1 466 = .ok (.pop, 1) := by decide +kernel
theorem d_TrustDeskLaw_law_467 : decode kY_TrustDeskLaw_law.2.1 467 = .ok (.aload_n 2, 1) := by decide +kernel
theorem d_TrustDeskLaw_law_468 : decode kY_TrustDeskLaw_law.2.1 468 = .ok (.aload_n 0, 1) := by decide +kernel
theorem d_TrustDeskLaw_law_469 : decode kY_TrustDeskLaw_law.2.1 469 = .ok (.iload 4, 2) := by decide +kernel
theorem d_TrustDeskLaw_law_471 : decode kY_TrustDeskLaw_law.2.1 471 = .ok (.iconst 1, 1) := by decide +kernel
theorem d_TrustDeskLaw_law_472 : decode kY_TrustDeskLaw_law.2.1 472 = .ok (.iadd, 1) := by decide +kernel
theorem d_TrustDeskLaw_law_473 : decode kY_TrustDeskLaw_law.2.1 473 = .ok (.iaload, 1) := by decide +kernel
theorem d_TrustDeskLaw_law_474 : decode kY_TrustDeskLaw_law.2.1 474 = .ok (.aload_n 0, 1) := by decide +kernel
theorem d_TrustDeskLaw_law_475 : decode kY_TrustDeskLaw_law.2.1 475 = .ok (.iload 4, 2) := by decide +kernel
theorem d_TrustDeskLaw_law_477 : decode kY_TrustDeskLaw_law.2.1 477 = .ok (.iconst 2, 1) := by decide +kernel
theorem d_TrustDeskLaw_law_478 : decode kY_TrustDeskLaw_law.2.1 478 = .ok (.iadd, 1) := by decide +kernel
theorem d_TrustDeskLaw_law_479 : decode kY_TrustDeskLaw_law.2.1 479 = .ok (.iaload, 1) := by decide +kernel
theorem d_TrustDeskLaw_law_480 : decode kY_TrustDeskLaw_law.2.1 480 = .ok (.invokevirtual 50, 3) := by decide +kernel
theorem lV_TrustDeskLaw_50 : mj_lV "TrustDeskLaw" 50 kY_TrustDeskModel_fund 2 := ⟨⟨(mj_in1 (List.mem_of_getElem? (i := 1789) (by decide +kernel)) rfl), (mj_in1 (List.mem_of_getElem? (i := 10) (by decide +kernel)) rfl), (mj_in1 (List.mem_of_getElem? (i := 1792) (by decide +kernel)) rfl), by decide, rfl, by decide⟩, (mj_in1 (List.mem_of_getElem? (i := 1790) (by decide +kernel)) rfl), (mj_in1 (List.mem_of_getElem? (i := 1791) (by decide +kernel)) rfl)⟩
theorem d_TrustDeskLaw_law_483 : decode kY_TrustDeskLaw_law.2.1 483 = .ok (.pop, 1) := by decide +kernel
theorem d_TrustDeskLaw_law_484 : decode kY_TrustDeskLaw_law.2.1 484 = .ok (.goto 997, 3) := by decide +kernel
set_option maxHeartbeats 4000000 in
theorem lx_case_6 {g : mj_G} {l : Launch} {d n Lf kc ks : Nat} {T : tm_H} {M : mj_M} {i t : Int32} (hlt : l.stackTraces = false) (h0 : 0 ≤ i.toInt) (hi : i.toInt + 6 ≤ (mj_L g : Int)) (hL : mj_L g ≤ 3072) (LI : lx_I T M n Lf t t) (k0 : lx_K T M n t) (kk : ∀ (T1 : tm_H) (M1 : mj_M) (n1 : Nat) (t1 : Int32), lx_I T1 M1 n1 Lf t1 t1 → lx_K T1 M1 n1 t1 → mj_V g l kY_TrustDeskLaw_law (d + 28) 1481 (lx_lv i) [] M1 n1 kc ks lx_Q) : mj_V g l kY_TrustDeskLaw_law (d + 28) 450 (lx_lv i) [] M n (kc + 1100) (ks + 14000) lx_Q := by
  refine mv_aload_n d_TrustDeskLaw_law_450 rfl rfl ?_
  refine lx_ld (k := 1) (c := 1) h0 hi hL (by decide) (by decide) d_TrustDeskLaw_law_451 d_TrustDeskLaw_law_452 (mv_iconst d_TrustDeskLaw_law_454 (by decide)) d_TrustDeskLaw_law_455 d_TrustDeskLaw_law_456 ?_
  refine lx_ld (k := 2) (c := 2) h0 hi hL (by decide) (by decide) d_TrustDeskLaw_law_457 d_TrustDeskLaw_law_458 (mv_iconst d_TrustDeskLaw_law_460 (by decide)) d_TrustDeskLaw_law_461 d_TrustDeskLaw_law_462 ?_
  obtain ⟨_, b2, -⟩ := LI.1.1 _ _ LI.2.1
  obtain ⟨pb, pn, P9, A9, F9, N9, S9, kD, kM⟩ := id k0
  obtain ⟨Rd, La, Lg, Ln, Ls, vp, ka, kf, kn, ks9, ⟨hR, qR⟩, yB, ⟨yp, ep⟩, lA, lF, lN, lS⟩ := id kD
  obtain rfl := tm_at.fnR lF.2.1 LI.2.2.2.2.2.1
  refine mv_callV (kc' := kc + 996) (ks' := ks + 155) (As := [.int (mj_xs g (i.toNatClampNeg + 1)), .int (mj_xs g (i.toNatClampNeg + 2))]) (st9 := [.int (mj_xs g (i.toNatClampNeg + 2)), .int (mj_xs g (i.toNatClampNeg + 1)), .ref 64]) d_TrustDeskLaw_law_463 lV_TrustDeskLaw_47 b2 rfl (tc_TrustDesk_fund_r (d := d + 4) (x9 := 0) (o0 := 64) (x1 := (mj_xs g (i.toNatClampNeg + 1))) (x2 := (mj_xs g (i.toNatClampNeg + 2))) LI.2.1 LI.2.2.2.2.1 LI.2.2.2.2.2.1 hR qR yB yp lF.2.2.1 LI.1.start) rfl (Nat.le_of_ble_eq_true rfl) (by omega) (by omega) (hst := rfl) (fun r3 M4 n5 h6 => ?_)
  obtain ⟨T7, J8, v9, rfl, FS, q11⟩ := h6
  have LI10 := LI.desk1 J8 (lx_ok (by decide)) (lx_D.fund LI.1 LI.2.2.2.2.1 J8 rfl rfl FS LI.2.2.2.2.2.2.2.2.1) (J8.keep LI.2.1 rfl LI.2.2.2.2.2.2.1)
  refine mv_pop d_TrustDeskLaw_law_466 rfl ?_
  refine mv_aload_n d_TrustDeskLaw_law_467 rfl rfl ?_
  refine lx_ld (k := 1) (c := 1) h0 hi hL (by decide) (by decide) d_TrustDeskLaw_law_468 d_TrustDeskLaw_law_469 (mv_iconst d_TrustDeskLaw_law_471 (by decide)) d_TrustDeskLaw_law_472 d_TrustDeskLaw_law_473 ?_
  refine lx_ld (k := 2) (c := 2) h0 hi hL (by decide) (by decide) d_TrustDeskLaw_law_474 d_TrustDeskLaw_law_475 (mv_iconst d_TrustDeskLaw_law_477 (by decide)) d_TrustDeskLaw_law_478 d_TrustDeskLaw_law_479 ?_
  obtain ⟨_, b13, -⟩ := LI10.1.1 _ _ LI10.2.2.1
  have hX22 := lx_X LI J8 rfl rfl rfl kM.1
  refine mv_callV (kc' := kc + 996) (ks' := ks + 155) (As := [.int (mj_xs g (i.toNatClampNeg + 1)), .int (mj_xs g (i.toNatClampNeg + 2))]) (st9 := [.int (mj_xs g (i.toNatClampNeg + 2)), .int (mj_xs g (i.toNatClampNeg + 1)), .ref 99]) d_TrustDeskLaw_law_480 lV_TrustDeskLaw_50 b13 rfl (tc_TrustDeskModel_fund_x (d := d + 0) (x9 := 0) (o0 := 99) (x1 := (mj_xs g (i.toNatClampNeg + 1))) (x2 := (mj_xs g (i.toNatClampNeg + 2))) LI10.2.2.1 LI10.2.2.2.2.2.2.2.2.2.1 LI10.2.2.2.2.2.2.2.2.2.2.1 LI10.2.2.2.2.2.2.2.2.2.2.2.1 LI10.2.2.2.2.2.2.2.2.2.2.2.2.1 hX22 LI10.1.start) rfl (Nat.le_of_ble_eq_true rfl) (by omega) (by omega) (hst := rfl) (fun r14 M15 n16 h17 => ?_)
  obtain ⟨T18, J19, v20, rfl, R28, f23, f24, f25, f26, f27⟩ := h17
  have LI21 := LI10.ref J19 (lx_ok (by decide)) (J19.keep LI10.2.2.1 rfl LI10.2.2.2.2.2.2.2.1) R28 f23 f24 f25 (LI10.2.2.2.2.2.2.2.2.2.2.2.2.2.mono (sA_c LI10.1 J19 LI10.2.2.1 (by decide +kernel)) (sF_c LI10.1 J19 LI10.2.2.1 (by decide +kernel)) f26 (Int.le_of_eq ((sF_c LI10.1 J19 LI10.2.2.1 (by decide +kernel) : sF [49] _ _ _) 49 rfl).symm))
  have hr21 : rv M4 99 21 = vp.toInt := (rv_c LI.1 J8 LI.2.2.1 (k := 21) rfl).trans (kM.2.1.trans ep.symm)
  have hr27 : rv M4 99 27 = ka.toInt := (rv_c LI.1 J8 LI.2.2.1 (k := 27) rfl).trans (kM.2.2.1.trans lA.2.2.2.symm)
  have := LI10.2.2.2.2.2.2.2.2.2.1.1 27 _ _ rfl
  have hr32 : rv M4 99 32 = kf.toInt := (rv_c LI.1 J8 LI.2.2.1 (k := 32) rfl).trans (kM.2.2.2.1.trans lF.2.2.2.symm)
  have := LI10.2.2.2.2.2.2.2.2.2.1.1 32 _ _ rfl
  have hr49 : rv M4 99 49 = kn.toInt := (rv_c LI.1 J8 LI.2.2.1 (k := 49) rfl).trans (kM.2.2.2.2.1.trans lN.2.2.2.symm)
  have := LI10.2.2.2.2.2.2.2.2.2.1.1 49 _ _ rfl
  have hr53 : rv M4 99 53 = ks9.toInt := (rv_c LI.1 J8 LI.2.2.1 (k := 53) rfl).trans (kM.2.2.2.2.2.trans lS.2.2.2.symm)
  have := LI10.2.2.2.2.2.2.2.2.2.1.1 53 _ _ rfl
  obtain ⟨e9, pn1, vp1, k1, z1, z2, z3, z4, z5, z6⟩ := lx_text (cf := 32) yB.2.2.1 q11 f27 ⟨fun h => by omega, fun h => by omega⟩ hr32.symm hX22 hr21 hr32 (ra_call LI10.1 J19 LI10.2.2.1 (k := 13) rfl rfl rfl)
  have kD1 : lx_KD T7 M4 pb pn1 vp1.toInt A9 k1.toInt N9 S9 := ⟨Rd, La, Lg, Ln, Ls, vp1, ka, k1, kn, ks9, ⟨J8.up hR, J8.keep LI.2.1 rfl qR⟩, z1, ⟨z2, rfl⟩, lA.keep LI J8 rfl rfl, ⟨J8.up lF.1, J8.keep LI.2.1 rfl lF.2.1, z3, rfl⟩, lN.keep LI J8 rfl rfl, lS.keep LI J8 rfl rfl⟩
  have k9 : lx_K T18 M15 n16 t := ⟨pb, pn1, _, _, _, _, _, kD1.keep LI10 J19 (lx_ok (by decide)), z4, z5, ((rv_c LI10.1 J19 LI10.2.2.1 (k := 27) rfl).trans ((rv_c LI.1 J8 LI.2.2.1 (k := 27) rfl).trans kM.2.2.1)), z6, ((rv_c LI10.1 J19 LI10.2.2.1 (k := 49) rfl).trans ((rv_c LI.1 J8 LI.2.2.1 (k := 49) rfl).trans kM.2.2.2.2.1)), ((rv_c LI10.1 J19 LI10.2.2.1 (k := 53) rfl).trans ((rv_c LI.1 J8 LI.2.2.1 (k := 53) rfl).trans kM.2.2.2.2.2))⟩
  have e8 : v9.toInt = v20.toInt := e9
  refine mv_pop d_TrustDeskLaw_law_483 rfl ?_
  refine mv_goto (tgt := 1481) d_TrustDeskLaw_law_484 (by decide) ?_
  exact mv_less (by omega) (by omega) (kk _ _ _ _ LI21 k9)
theorem d_TrustDeskLaw_law_487 : decode kY_TrustDeskLaw_law.2.1 487 = .ok (.aload_n 1, 1) := by decide +kernel
theorem d_TrustDeskLaw_law_488 : decode kY_TrustDeskLaw_law.2.1 488 = .ok (.aload_n 0, 1) := by decide +kernel
theorem d_TrustDeskLaw_law_489 : decode kY_TrustDeskLaw_law.2.1 489 = .ok (.iload 4, 2) := by decide +kernel
theorem d_TrustDeskLaw_law_491 : decode kY_TrustDeskLaw_law.2.1 491 = .ok (.iconst 1, 1) := by decide +kernel
theorem d_TrustDeskLaw_law_492 : decode kY_TrustDeskLaw_law.2.1 492 = .ok (.iadd, 1) := by decide +kernel
theorem d_TrustDeskLaw_law_493 : decode kY_TrustDeskLaw_law.2.1 493 = .ok (.iaload, 1) := by decide +kernel
theorem d_TrustDeskLaw_law_494 : decode kY_TrustDeskLaw_law.2.1 494 = .ok (.invokevirtual 51, 3) := by decide +kernel
theorem lV_TrustDeskLaw_51 : mj_lV "TrustDeskLaw" 51 kY_TrustDesk_near 1 := ⟨⟨(mj_in1 (List.mem_of_getElem? (i := 813) (by decide +kernel)) rfl), (mj_in1 (List.mem_of_getElem? (i := 1) (by decide +kernel)) rfl), (mj_in1 (List.mem_of_getElem? (i := 816) (by decide +kernel)) rfl), by decide, rfl, by decide⟩, (mj_in1 (List.mem_of_getElem? (i := 814) (by decide +kernel)) rfl), (mj_in1 (List.mem_of_getElem? (i := 815) (by decide +kernel)) rfl)⟩
theorem d_TrustDeskLaw_law_497 : decode kY_TrustDeskLaw_law.2.1 497 = .ok (.pop, 1) := by decide +kernel
theorem d_TrustDeskLaw_law_498 : decode kY_TrustDeskLaw_law.2.1 498 = .ok (.aload_n 2, 1) := by decide +kernel
theorem d_TrustDeskLaw_law_499 : decode kY_TrustDeskLaw_law.2.1 499 = .ok (.aload_n 0, 1) := by decide +kernel
theorem d_TrustDeskLaw_law_500 : decode kY_TrustDeskLaw_law.2.1 500 = .ok (.iload 4, 2) := by decide +kernel
theorem d_TrustDeskLaw_law_502 : decode kY_TrustDeskLaw_law.2.1 502 = .ok (.iconst 1, 1) := by decide +kernel
theorem d_TrustDeskLaw_law_503 : decode kY_TrustDeskLaw_law.2.1 503 = .ok (.iadd, 1) := by decide +kernel
theorem d_TrustDeskLaw_law_504 : decode kY_TrustDeskLaw_law.2.1 504 = .ok (.iaload, 1) := by decide +kernel
theorem d_TrustDeskLaw_law_505 : decode kY_TrustDeskLaw_law.2.1 505 = .ok (.invokevirtual 54, 3) := by decide +kernel
theorem lV_TrustDeskLaw_54 : mj_lV "TrustDeskLaw" 54 kY_TrustDeskModel_near 1 := ⟨⟨(mj_in1 (List.mem_of_getElem? (i := 1821) (by decide +kernel)) rfl), (mj_in1 (List.mem_of_getElem? (i := 10) (by decide +kernel)) rfl), (mj_in1 (List.mem_of_getElem? (i := 1824) (by decide +kernel)) rfl), by decide, rfl, by decide⟩, (mj_in1 (List.mem_of_getElem? (i := 1822) (by decide +kernel)) rfl), (mj_in1 (List.mem_of_getElem? (i := 1823) (by decide +kernel)) rfl)⟩
theorem d_TrustDeskLaw_law_508 : decode kY_TrustDeskLaw_law.2.1 508 = .ok (.pop, 1) := by decide +kernel
theorem d_TrustDeskLaw_law_509 : decode kY_TrustDeskLaw_law.2.1 509 = .ok (.goto 972, 3) := by decide +kernel
set_option maxHeartbeats 4000000 in
theorem lx_case_7 {g : mj_G} {l : Launch} {d n Lf kc ks : Nat} {T : tm_H} {M : mj_M} {i t : Int32} (hlt : l.stackTraces = false) (h0 : 0 ≤ i.toInt) (hi : i.toInt + 6 ≤ (mj_L g : Int)) (hL : mj_L g ≤ 3072) (LI : lx_I T M n Lf t t) (k0 : lx_K T M n t) (kk : ∀ (T1 : tm_H) (M1 : mj_M) (n1 : Nat) (t1 : Int32), lx_I T1 M1 n1 Lf t1 t1 → lx_K T1 M1 n1 t1 → mj_V g l kY_TrustDeskLaw_law (d + 28) 1481 (lx_lv i) [] M1 n1 kc ks lx_Q) : mj_V g l kY_TrustDeskLaw_law (d + 28) 487 (lx_lv i) [] M n (kc + 1100) (ks + 14000) lx_Q := by
  refine mv_aload_n d_TrustDeskLaw_law_487 rfl rfl ?_
  refine lx_ld (k := 1) (c := 1) h0 hi hL (by decide) (by decide) d_TrustDeskLaw_law_488 d_TrustDeskLaw_law_489 (mv_iconst d_TrustDeskLaw_law_491 (by decide)) d_TrustDeskLaw_law_492 d_TrustDeskLaw_law_493 ?_
  obtain ⟨_, b2, -⟩ := LI.1.1 _ _ LI.2.1
  obtain ⟨pb, pn, P9, A9, F9, N9, S9, kD, kM⟩ := id k0
  obtain ⟨Rd, La, Lg, Ln, Ls, vp, ka, kf, kn, ks9, ⟨hR, qR⟩, yB, ⟨yp, ep⟩, lA, lF, lN, lS⟩ := id kD
  refine mv_callV (kc' := kc + 1093) (ks' := ks + 13157) (As := [.int (mj_xs g (i.toNatClampNeg + 1))]) (st9 := [.int (mj_xs g (i.toNatClampNeg + 1)), .ref 64]) d_TrustDeskLaw_law_494 lV_TrustDeskLaw_51 b2 rfl (tc_TrustDesk_near_r (d := d + 5) (x9 := 0) (o0 := 64) (x1 := (mj_xs g (i.toNatClampNeg + 1))) LI.2.1 hR qR yB yp lN.1 lN.2.1 lN.2.2.1 LI.1.start) rfl (Nat.le_of_ble_eq_true rfl) (by omega) (by omega) (hst := rfl) (fun r3 M4 n5 h6 => ?_)
  obtain ⟨T7, J8, v9, rfl, q11⟩ := h6
  have LI10 := LI.desk J8 (lx_ok (by decide))
  refine mv_pop d_TrustDeskLaw_law_497 rfl ?_
  refine mv_aload_n d_TrustDeskLaw_law_498 rfl rfl ?_
  refine lx_ld (k := 1) (c := 1) h0 hi hL (by decide) (by decide) d_TrustDeskLaw_law_499 d_TrustDeskLaw_law_500 (mv_iconst d_TrustDeskLaw_law_502 (by decide)) d_TrustDeskLaw_law_503 d_TrustDeskLaw_law_504 ?_
  obtain ⟨_, b13, -⟩ := LI10.1.1 _ _ LI10.2.2.1
  have hX22 := lx_X LI J8 rfl rfl rfl kM.1
  refine mv_callV (kc' := kc + 1093) (ks' := ks + 13157) (As := [.int (mj_xs g (i.toNatClampNeg + 1))]) (st9 := [.int (mj_xs g (i.toNatClampNeg + 1)), .ref 99]) d_TrustDeskLaw_law_505 lV_TrustDeskLaw_54 b13 rfl (tc_TrustDeskModel_near_x (d := d + 0) (x9 := 0) (o0 := 99) (x1 := (mj_xs g (i.toNatClampNeg + 1))) LI10.2.2.1 LI10.2.2.2.2.2.2.2.2.2.1 LI10.2.2.2.2.2.2.2.2.2.2.1 hX22 LI10.1.start) rfl (Nat.le_of_ble_eq_true rfl) (by omega) (by omega) (hst := rfl) (fun r14 M15 n16 h17 => ?_)
  obtain ⟨T18, J19, v20, rfl, R26, f23, f24, f25⟩ := h17
  have LI21 := LI10.ref J19 (lx_ok (by decide)) (J19.keep LI10.2.2.1 rfl LI10.2.2.2.2.2.2.2.1) R26 f23 (LI10.2.2.2.2.2.2.2.2.2.2.2.1.same (sA_c LI10.1 J19 LI10.2.2.1 (by decide +kernel)) (sF_c LI10.1 J19 LI10.2.2.1 (by decide +kernel))) (LI10.2.2.2.2.2.2.2.2.2.2.2.2.1.same (sA_c LI10.1 J19 LI10.2.2.1 (by decide +kernel)) (sF_c LI10.1 J19 LI10.2.2.1 (by decide +kernel))) (LI10.2.2.2.2.2.2.2.2.2.2.2.2.2.mono (sA_c LI10.1 J19 LI10.2.2.1 (by decide +kernel)) (sF_c LI10.1 J19 LI10.2.2.1 (by decide +kernel)) (Int.le_of_eq ((sF_c LI10.1 J19 LI10.2.2.1 (by decide +kernel) : sF [32] _ _ _) 32 rfl).symm) f24)
  have hr21 : rv M4 99 21 = vp.toInt := (rv_c LI.1 J8 LI.2.2.1 (k := 21) rfl).trans (kM.2.1.trans ep.symm)
  have hr27 : rv M4 99 27 = ka.toInt := (rv_c LI.1 J8 LI.2.2.1 (k := 27) rfl).trans (kM.2.2.1.trans lA.2.2.2.symm)
  have := LI10.2.2.2.2.2.2.2.2.2.1.1 27 _ _ rfl
  have hr32 : rv M4 99 32 = kf.toInt := (rv_c LI.1 J8 LI.2.2.1 (k := 32) rfl).trans (kM.2.2.2.1.trans lF.2.2.2.symm)
  have := LI10.2.2.2.2.2.2.2.2.2.1.1 32 _ _ rfl
  have hr49 : rv M4 99 49 = kn.toInt := (rv_c LI.1 J8 LI.2.2.1 (k := 49) rfl).trans (kM.2.2.2.2.1.trans lN.2.2.2.symm)
  have := LI10.2.2.2.2.2.2.2.2.2.1.1 49 _ _ rfl
  have hr53 : rv M4 99 53 = ks9.toInt := (rv_c LI.1 J8 LI.2.2.1 (k := 53) rfl).trans (kM.2.2.2.2.2.trans lS.2.2.2.symm)
  have := LI10.2.2.2.2.2.2.2.2.2.1.1 53 _ _ rfl
  obtain ⟨e9, pn1, vp1, k1, z1, z2, z3, z4, z5, z6⟩ := lx_text (cf := 49) yB.2.2.1 q11 f25 ⟨fun h => by omega, fun h => by omega⟩ hr49.symm hX22 hr21 hr49 (ra_call LI10.1 J19 LI10.2.2.1 (k := 13) rfl rfl rfl)
  have kD1 : lx_KD T7 M4 pb pn1 vp1.toInt A9 F9 k1.toInt S9 := ⟨Rd, La, Lg, Ln, Ls, vp1, ka, kf, k1, ks9, ⟨J8.up hR, J8.keep LI.2.1 rfl qR⟩, z1, ⟨z2, rfl⟩, lA.keep LI J8 rfl rfl, lF.keep LI J8 rfl rfl, ⟨J8.up lN.1, J8.keep LI.2.1 rfl lN.2.1, z3, rfl⟩, lS.keep LI J8 rfl rfl⟩
  have k9 : lx_K T18 M15 n16 t := ⟨pb, pn1, _, _, _, _, _, kD1.keep LI10 J19 (lx_ok (by decide)), z4, z5, ((rv_c LI10.1 J19 LI10.2.2.1 (k := 27) rfl).trans ((rv_c LI.1 J8 LI.2.2.1 (k := 27) rfl).trans kM.2.2.1)), ((rv_c LI10.1 J19 LI10.2.2.1 (k := 32) rfl).trans ((rv_c LI.1 J8 LI.2.2.1 (k := 32) rfl).trans kM.2.2.2.1)), z6, ((rv_c LI10.1 J19 LI10.2.2.1 (k := 53) rfl).trans ((rv_c LI.1 J8 LI.2.2.1 (k := 53) rfl).trans kM.2.2.2.2.2))⟩
  have e8 : v9.toInt = v20.toInt := e9
  refine mv_pop d_TrustDeskLaw_law_508 rfl ?_
  refine mv_goto (tgt := 1481) d_TrustDeskLaw_law_509 (by decide) ?_
  exact mv_less (by omega) (by omega) (kk _ _ _ _ LI21 k9)
theorem d_TrustDeskLaw_law_512 : decode kY_TrustDeskLaw_law.2.1 512 = .ok (.aload_n 1, 1) := by decide +kernel
theorem d_TrustDeskLaw_law_513 : decode kY_TrustDeskLaw_law.2.1 513 = .ok (.invokevirtual 55, 3) := by decide +kernel
theorem lV_TrustDeskLaw_55 : mj_lV "TrustDeskLaw" 55 kY_TrustDesk_place 0 := ⟨⟨(mj_in1 (List.mem_of_getElem? (i := 836) (by decide +kernel)) rfl), (mj_in1 (List.mem_of_getElem? (i := 1) (by decide +kernel)) rfl), (mj_in1 (List.mem_of_getElem? (i := 839) (by decide +kernel)) rfl), by decide, rfl, by decide⟩, (mj_in1 (List.mem_of_getElem? (i := 837) (by decide +kernel)) rfl), (mj_in1 (List.mem_of_getElem? (i := 838) (by decide +kernel)) rfl)⟩
theorem d_TrustDeskLaw_law_516 : decode kY_TrustDeskLaw_law.2.1 516 = .ok (.pop, 1) := by decide +kernel
theorem d_TrustDeskLaw_law_517 : decode kY_TrustDeskLaw_law.2.1 517 = .ok (.aload_n 2, 1) := by decide +kernel
theorem d_TrustDeskLaw_law_518 : decode kY_TrustDeskLaw_law.2.1 518 = .ok (.invokevirtual 59, 3) := by decide +kernel
theorem lV_TrustDeskLaw_59 : mj_lV "TrustDeskLaw" 59 kY_TrustDeskModel_place 0 := ⟨⟨(mj_in1 (List.mem_of_getElem? (i := 1635) (by decide +kernel)) rfl), (mj_in1 (List.mem_of_getElem? (i := 10) (by decide +kernel)) rfl), (mj_in1 (List.mem_of_getElem? (i := 1638) (by decide +kernel)) rfl), by decide, rfl, by decide⟩, (mj_in1 (List.mem_of_getElem? (i := 1636) (by decide +kernel)) rfl), (mj_in1 (List.mem_of_getElem? (i := 1637) (by decide +kernel)) rfl)⟩
theorem d_TrustDeskLaw_law_521 : decode kY_TrustDeskLaw_law.2.1 521 = .ok (.pop, 1) := by decide +kernel
theorem d_TrustDeskLaw_law_522 : decode kY_TrustDeskLaw_law.2.1 522 = .ok (.goto 959, 3) := by decide +kernel
set_option maxHeartbeats 4000000 in
theorem lx_case_8 {g : mj_G} {l : Launch} {d n Lf kc ks : Nat} {T : tm_H} {M : mj_M} {i t : Int32} (hlt : l.stackTraces = false) (h0 : 0 ≤ i.toInt) (hi : i.toInt + 6 ≤ (mj_L g : Int)) (hL : mj_L g ≤ 3072) (LI : lx_I T M n Lf t t) (k0 : lx_K T M n t) (kk : ∀ (T1 : tm_H) (M1 : mj_M) (n1 : Nat) (t1 : Int32), lx_I T1 M1 n1 Lf t1 t1 → lx_K T1 M1 n1 t1 → mj_V g l kY_TrustDeskLaw_law (d + 28) 1481 (lx_lv i) [] M1 n1 kc ks lx_Q) : mj_V g l kY_TrustDeskLaw_law (d + 28) 512 (lx_lv i) [] M n (kc + 1100) (ks + 14000) lx_Q := by
  refine mv_aload_n d_TrustDeskLaw_law_512 rfl rfl ?_
  obtain ⟨_, b2, -⟩ := LI.1.1 _ _ LI.2.1
  obtain ⟨pb, pn, P9, A9, F9, N9, S9, kD, kM⟩ := id k0
  obtain ⟨Rd, La, Lg, Ln, Ls, vp, ka, kf, kn, ks9, ⟨hR, qR⟩, yB, ⟨yp, ep⟩, lA, lF, lN, lS⟩ := id kD
  refine mv_callV (kc' := kc + 1100) (ks' := ks + 14000) (As := []) (st9 := [.ref 64]) d_TrustDeskLaw_law_513 lV_TrustDeskLaw_55 b2 rfl (tc_TrustDesk_place_r (d := d + 27) (x9 := 0) (o0 := 64) LI.2.1 hR qR yp LI.1.start) rfl (Nat.le_of_ble_eq_true rfl) (by omega) (by omega) (hst := rfl) (fun r3 M4 n5 h6 => ?_)
  obtain ⟨T7, J8, v9, rfl, q11⟩ := h6
  have LI10 := LI.desk J8 (lx_ok (by decide))
  have k1 := lx_Kkeep LI J8 (lx_ok (by decide)) k0
  refine mv_pop d_TrustDeskLaw_law_516 rfl ?_
  refine mv_aload_n d_TrustDeskLaw_law_517 rfl rfl ?_
  obtain ⟨_, b13, -⟩ := LI10.1.1 _ _ LI10.2.2.1
  have hX22 := lx_X LI J8 rfl rfl rfl kM.1
  refine mv_callV (kc' := kc + 1100) (ks' := ks + 14000) (As := []) (st9 := [.ref 99]) d_TrustDeskLaw_law_518 lV_TrustDeskLaw_59 b13 rfl (tc_TrustDeskModel_place_z (d := d + 27) (x9 := 0) (o0 := 99) LI10.2.2.1 LI10.2.2.2.2.2.2.2.2.2.1 LI10.1.start) rfl (Nat.le_of_ble_eq_true rfl) (by omega) (by omega) (hst := rfl) (fun r14 M15 n16 h17 => ?_)
  obtain ⟨T18, J19, v20, rfl, R24, f23⟩ := h17
  have LI21 := LI10.ref J19 (lx_ok (by decide)) (J19.keep LI10.2.2.1 rfl LI10.2.2.2.2.2.2.2.1) R24 (LI10.2.2.2.2.2.2.2.2.2.2.1.same (sA_c LI10.1 J19 LI10.2.2.1 (by decide +kernel)) (sF_c LI10.1 J19 LI10.2.2.1 (by decide +kernel))) (LI10.2.2.2.2.2.2.2.2.2.2.2.1.same (sA_c LI10.1 J19 LI10.2.2.1 (by decide +kernel)) (sF_c LI10.1 J19 LI10.2.2.1 (by decide +kernel))) (LI10.2.2.2.2.2.2.2.2.2.2.2.2.1.same (sA_c LI10.1 J19 LI10.2.2.1 (by decide +kernel)) (sF_c LI10.1 J19 LI10.2.2.1 (by decide +kernel))) (LI10.2.2.2.2.2.2.2.2.2.2.2.2.2.same (sA_c LI10.1 J19 LI10.2.2.1 (by decide +kernel)) (sF_c LI10.1 J19 LI10.2.2.1 (by decide +kernel)))
  have hr21 : rv M4 99 21 = vp.toInt := (rv_c LI.1 J8 LI.2.2.1 (k := 21) rfl).trans (kM.2.1.trans ep.symm)
  have hr27 : rv M4 99 27 = ka.toInt := (rv_c LI.1 J8 LI.2.2.1 (k := 27) rfl).trans (kM.2.2.1.trans lA.2.2.2.symm)
  have := LI10.2.2.2.2.2.2.2.2.2.1.1 27 _ _ rfl
  have hr32 : rv M4 99 32 = kf.toInt := (rv_c LI.1 J8 LI.2.2.1 (k := 32) rfl).trans (kM.2.2.2.1.trans lF.2.2.2.symm)
  have := LI10.2.2.2.2.2.2.2.2.2.1.1 32 _ _ rfl
  have hr49 : rv M4 99 49 = kn.toInt := (rv_c LI.1 J8 LI.2.2.1 (k := 49) rfl).trans (kM.2.2.2.2.1.trans lN.2.2.2.symm)
  have := LI10.2.2.2.2.2.2.2.2.2.1.1 49 _ _ rfl
  have hr53 : rv M4 99 53 = ks9.toInt := (rv_c LI.1 J8 LI.2.2.1 (k := 53) rfl).trans (kM.2.2.2.2.2.trans lS.2.2.2.symm)
  have := LI10.2.2.2.2.2.2.2.2.2.1.1 53 _ _ rfl
  have e8 : v9.toInt = v20.toInt := by omega
  have k12 := lx_Kkeep LI10 J19 (lx_ok (by decide)) k1
  refine mv_pop d_TrustDeskLaw_law_521 rfl ?_
  refine mv_goto (tgt := 1481) d_TrustDeskLaw_law_522 (by decide) ?_
  exact mv_less (by omega) (by omega) (kk _ _ _ _ LI21 k12)
theorem d_TrustDeskLaw_law_525 : decode kY_TrustDeskLaw_law.2.1 525 = .ok (.aload_n 1, 1) := by decide +kernel
theorem d_TrustDeskLaw_law_526 : decode kY_TrustDeskLaw_law.2.1 526 = .ok (.aload_n 0, 1) := by decide +kernel
theorem d_TrustDeskLaw_law_527 : decode kY_TrustDeskLaw_law.2.1 527 = .ok (.iload 4, 2) := by decide +kernel
theorem d_TrustDeskLaw_law_529 : decode kY_TrustDeskLaw_law.2.1 529 = .ok (.iconst 1, 1) := by decide +kernel
theorem d_TrustDeskLaw_law_530 : decode kY_TrustDeskLaw_law.2.1 530 = .ok (.iadd, 1) := by decide +kernel
theorem d_TrustDeskLaw_law_531 : decode kY_TrustDeskLaw_law.2.1 531 = .ok (.iaload, 1) := by decide +kernel
theorem d_TrustDeskLaw_law_532 : decode kY_TrustDeskLaw_law.2.1 532 = .ok (.invokevirtual 60, 3) := by decide +kernel
theorem lV_TrustDeskLaw_60 : mj_lV "TrustDeskLaw" 60 kY_TrustDesk_days 1 := ⟨⟨(mj_in1 (List.mem_of_getElem? (i := 840) (by decide +kernel)) rfl), (mj_in1 (List.mem_of_getElem? (i := 1) (by decide +kernel)) rfl), (mj_in1 (List.mem_of_getElem? (i := 843) (by decide +kernel)) rfl), by decide, rfl, by decide⟩, (mj_in1 (List.mem_of_getElem? (i := 841) (by decide +kernel)) rfl), (mj_in1 (List.mem_of_getElem? (i := 842) (by decide +kernel)) rfl)⟩
theorem d_TrustDeskLaw_law_535 : decode kY_TrustDeskLaw_law.2.1 535 = .ok (.pop, 1) := by decide +kernel
theorem d_TrustDeskLaw_law_536 : decode kY_TrustDeskLaw_law.2.1 536 = .ok (.aload_n 2, 1) := by decide +kernel
theorem d_TrustDeskLaw_law_537 : decode kY_TrustDeskLaw_law.2.1 537 = .ok (.aload_n 0, 1) := by decide +kernel
theorem d_TrustDeskLaw_law_538 : decode kY_TrustDeskLaw_law.2.1 538 = .ok (.iload 4, 2) := by decide +kernel
theorem d_TrustDeskLaw_law_540 : decode kY_TrustDeskLaw_law.2.1 540 = .ok (.iconst 1, 1) := by decide +kernel
theorem d_TrustDeskLaw_law_541 : decode kY_TrustDeskLaw_law.2.1 541 = .ok (.iadd, 1) := by decide +kernel
theorem d_TrustDeskLaw_law_542 : decode kY_TrustDeskLaw_law.2.1 542 = .ok (.iaload, 1) := by decide +kernel
theorem d_TrustDeskLaw_law_543 : decode kY_TrustDeskLaw_law.2.1 543 = .ok (.invokevirtual 63, 3) := by decide +kernel
theorem lV_TrustDeskLaw_63 : mj_lV "TrustDeskLaw" 63 kY_TrustDeskModel_days 1 := ⟨⟨(mj_in1 (List.mem_of_getElem? (i := 1876) (by decide +kernel)) rfl), (mj_in1 (List.mem_of_getElem? (i := 10) (by decide +kernel)) rfl), (mj_in1 (List.mem_of_getElem? (i := 1879) (by decide +kernel)) rfl), by decide, rfl, by decide⟩, (mj_in1 (List.mem_of_getElem? (i := 1877) (by decide +kernel)) rfl), (mj_in1 (List.mem_of_getElem? (i := 1878) (by decide +kernel)) rfl)⟩
theorem d_TrustDeskLaw_law_546 : decode kY_TrustDeskLaw_law.2.1 546 = .ok (.pop, 1) := by decide +kernel
theorem d_TrustDeskLaw_law_547 : decode kY_TrustDeskLaw_law.2.1 547 = .ok (.goto 934, 3) := by decide +kernel
set_option maxHeartbeats 4000000 in
theorem lx_case_9 {g : mj_G} {l : Launch} {d n Lf kc ks : Nat} {T : tm_H} {M : mj_M} {i t : Int32} (hlt : l.stackTraces = false) (h0 : 0 ≤ i.toInt) (hi : i.toInt + 6 ≤ (mj_L g : Int)) (hL : mj_L g ≤ 3072) (LI : lx_I T M n Lf t t) (k0 : lx_K T M n t) (kk : ∀ (T1 : tm_H) (M1 : mj_M) (n1 : Nat) (t1 : Int32), lx_I T1 M1 n1 Lf t1 t1 → lx_K T1 M1 n1 t1 → mj_V g l kY_TrustDeskLaw_law (d + 28) 1481 (lx_lv i) [] M1 n1 kc ks lx_Q) : mj_V g l kY_TrustDeskLaw_law (d + 28) 525 (lx_lv i) [] M n (kc + 1100) (ks + 14000) lx_Q := by
  refine mv_aload_n d_TrustDeskLaw_law_525 rfl rfl ?_
  refine lx_ld (k := 1) (c := 1) h0 hi hL (by decide) (by decide) d_TrustDeskLaw_law_526 d_TrustDeskLaw_law_527 (mv_iconst d_TrustDeskLaw_law_529 (by decide)) d_TrustDeskLaw_law_530 d_TrustDeskLaw_law_531 ?_
  obtain ⟨_, b2, -⟩ := LI.1.1 _ _ LI.2.1
  refine mv_callV (kc' := kc + 1100) (ks' := ks + 14000) (As := [.int (mj_xs g (i.toNatClampNeg + 1))]) (st9 := [.int (mj_xs g (i.toNatClampNeg + 1)), .ref 64]) d_TrustDeskLaw_law_532 lV_TrustDeskLaw_60 b2 rfl (tc_TrustDesk_days_x (d := d + 20) (x9 := 0) (o0 := 64) (x1 := (mj_xs g (i.toNatClampNeg + 1))) LI.2.1 LI.2.2.2.2.2.2.1 LI.1.start) rfl (Nat.le_of_ble_eq_true rfl) (by omega) (by omega) (hst := rfl) (fun r3 M4 n5 h6 => ?_)
  obtain ⟨T7, J8, v9, rfl, q11⟩ := h6
  obtain ⟨t9, ht9⟩ := tm_atI (k := 12) J8 (J8.up LI.2.1) rfl
  have LI10 := LI.desk1 J8 (lx_ok (by decide)) (lx_D.keep LI.1.1 LI.2.2.2.2.1 J8 rfl rfl rfl rfl rfl LI.2.2.2.2.2.2.2.2.1) ht9
  have k1 := lx_Kkeep LI J8 (lx_ok (by decide)) k0
  refine mv_pop d_TrustDeskLaw_law_535 rfl ?_
  refine mv_aload_n d_TrustDeskLaw_law_536 rfl rfl ?_
  refine lx_ld (k := 1) (c := 1) h0 hi hL (by decide) (by decide) d_TrustDeskLaw_law_537 d_TrustDeskLaw_law_538 (mv_iconst d_TrustDeskLaw_law_540 (by decide)) d_TrustDeskLaw_law_541 d_TrustDeskLaw_law_542 ?_
  obtain ⟨_, b13, -⟩ := LI10.1.1 _ _ LI10.2.2.1
  refine mv_callV (kc' := kc + 1100) (ks' := ks + 14000) (As := [.int (mj_xs g (i.toNatClampNeg + 1))]) (st9 := [.int (mj_xs g (i.toNatClampNeg + 1)), .ref 99]) d_TrustDeskLaw_law_543 lV_TrustDeskLaw_63 b13 rfl (tc_TrustDeskModel_days_x (d := d + 22) (x9 := 0) (o0 := 99) (x1 := (mj_xs g (i.toNatClampNeg + 1))) LI10.2.2.1 LI10.2.2.2.2.2.2.2.2.2.1 LI10.2.2.2.2.2.2.2.1 LI10.2.2.2.2.2.2.2.2.2.2.1 LI10.1.start) rfl (Nat.le_of_ble_eq_true rfl) (by omega) (by omega) (hst := rfl) (fun r14 M15 n16 h17 => ?_)
  obtain ⟨T18, J19, v20, rfl, R24, f22, f23⟩ := h17
  have k12 := lx_Kkeep LI10 J19 (lx_ok (by decide)) k1
  refine mv_pop d_TrustDeskLaw_law_546 rfl ?_
  refine mv_goto (tgt := 1481) d_TrustDeskLaw_law_547 (by decide) ?_
  rcases q11 with ⟨e1, c1, q1⟩ | ⟨e1, c1, q1⟩
  · rcases f22 with ⟨e2, c2, q2⟩ | ⟨e2, c2, q2⟩
    · exact mv_less (by omega) (by omega) (kk _ _ _ _ (lx_I.ref (lx_I.desk1 LI J8 (lx_ok (by decide)) (lx_D.keep LI.1.1 LI.2.2.2.2.1 J8 rfl rfl rfl rfl rfl LI.2.2.2.2.2.2.2.2.1) q1) J19 (lx_ok (by decide)) q2 R24 f23 (LI10.2.2.2.2.2.2.2.2.2.2.2.1.same (sA_c LI10.1 J19 LI10.2.2.1 (by decide +kernel)) (sF_c LI10.1 J19 LI10.2.2.1 (by decide +kernel))) (LI10.2.2.2.2.2.2.2.2.2.2.2.2.1.same (sA_c LI10.1 J19 LI10.2.2.1 (by decide +kernel)) (sF_c LI10.1 J19 LI10.2.2.1 (by decide +kernel))) (LI10.2.2.2.2.2.2.2.2.2.2.2.2.2.same (sA_c LI10.1 J19 LI10.2.2.1 (by decide +kernel)) (sF_c LI10.1 J19 LI10.2.2.1 (by decide +kernel)))) (lx_Kt (Int.le_refl _) k12))
    · exact absurd c1 c2
  · rcases f22 with ⟨e2, c2, q2⟩ | ⟨e2, c2, q2⟩
    · exact absurd c2 c1
    · exact mv_less (by omega) (by omega) (kk _ _ _ _ (lx_I.ref (lx_I.desk1 LI J8 (lx_ok (by decide)) (lx_D.keep LI.1.1 LI.2.2.2.2.1 J8 rfl rfl rfl rfl rfl LI.2.2.2.2.2.2.2.2.1) q1) J19 (lx_ok (by decide)) q2 R24 f23 (LI10.2.2.2.2.2.2.2.2.2.2.2.1.same (sA_c LI10.1 J19 LI10.2.2.1 (by decide +kernel)) (sF_c LI10.1 J19 LI10.2.2.1 (by decide +kernel))) (LI10.2.2.2.2.2.2.2.2.2.2.2.2.1.same (sA_c LI10.1 J19 LI10.2.2.1 (by decide +kernel)) (sF_c LI10.1 J19 LI10.2.2.1 (by decide +kernel))) (LI10.2.2.2.2.2.2.2.2.2.2.2.2.2.same (sA_c LI10.1 J19 LI10.2.2.1 (by decide +kernel)) (sF_c LI10.1 J19 LI10.2.2.1 (by decide +kernel)))) (lx_Kt (by have h9 := tm_rv LI.2.2.2.2.2.2.2.1; have h8 := LI.2.2.2.2.2.2.2.2.2.1.1 1 _ _ rfl; rw [h9] at h8; have h7 : (t + (mj_xs g (i.toNatClampNeg + 1)) : Int32).toInt = t.toInt + ((mj_xs g (i.toNatClampNeg + 1))).toInt := mz_addc _ (by omega) (by omega); omega) k12))
theorem d_TrustDeskLaw_law_550 : decode kY_TrustDeskLaw_law.2.1 550 = .ok (.aload_n 1, 1) := by decide +kernel
theorem d_TrustDeskLaw_law_551 : decode kY_TrustDeskLaw_law.2.1 551 = .ok (.aload_n 0, 1) := by decide +kernel
theorem d_TrustDeskLaw_law_552 : decode kY_TrustDeskLaw_law.2.1 552 = .ok (.iload 4, 2) := by decide +kernel
theorem d_TrustDeskLaw_law_554 : decode kY_TrustDeskLaw_law.2.1 554 = .ok (.iconst 1, 1) := by decide +kernel
theorem d_TrustDeskLaw_law_555 : decode kY_TrustDeskLaw_law.2.1 555 = .ok (.iadd, 1) := by decide +kernel
theorem d_TrustDeskLaw_law_556 : decode kY_TrustDeskLaw_law.2.1 556 = .ok (.iaload, 1) := by decide +kernel
theorem d_TrustDeskLaw_law_557 : decode kY_TrustDeskLaw_law.2.1 557 = .ok (.aload_n 0, 1) := by decide +kernel
theorem d_TrustDeskLaw_law_558 : decode kY_TrustDeskLaw_law.2.1 558 = .ok (.iload 4, 2) := by decide +kernel
theorem d_TrustDeskLaw_law_560 : decode kY_TrustDeskLaw_law.2.1 560 = .ok (.iconst 2, 1) := by decide +kernel
theorem d_TrustDeskLaw_law_561 : decode kY_TrustDeskLaw_law.2.1 561 = .ok (.iadd, 1) := by decide +kernel
theorem d_TrustDeskLaw_law_562 : decode kY_TrustDeskLaw_law.2.1 562 = .ok (.iaload, 1) := by decide +kernel
theorem d_TrustDeskLaw_law_563 : decode kY_TrustDeskLaw_law.2.1 563 = .ok (.invokevirtual 64, 3) := by decide +kernel
theorem lV_TrustDeskLaw_64 : mj_lV "TrustDeskLaw" 64 kY_TrustDesk_trustee 2 := ⟨⟨(mj_in1 (List.mem_of_getElem? (i := 934) (by decide +kernel)) rfl), (mj_in1 (List.mem_of_getElem? (i := 1) (by decide +kernel)) rfl), (mj_in1 (List.mem_of_getElem? (i := 937) (by decide +kernel)) rfl), by decide, rfl, by decide⟩, (mj_in1 (List.mem_of_getElem? (i := 935) (by decide +kernel)) rfl), (mj_in1 (List.mem_of_getElem? (i := 936) (by decide +kernel)) rfl)⟩
theorem d_TrustDeskLaw_law_566 : decode kY_TrustDeskLaw_law.2.1 566 = .ok (.pop, 1) := by decide +kernel
theorem d_TrustDeskLaw_law_567 : decode kY_TrustDeskLaw_law.2.1 567 = .ok (.aload_n 2, 1) := by decide +kernel
theorem d_TrustDeskLaw_law_568 : decode kY_TrustDeskLaw_law.2.1 568 = .ok (.aload_n 0, 1) := by decide +kernel
theorem d_TrustDeskLaw_law_569 : decode kY_TrustDeskLaw_law.2.1 569 = .ok (.iload 4, 2) := by decide +kernel
theorem d_TrustDeskLaw_law_571 : decode kY_TrustDeskLaw_law.2.1 571 = .ok (.iconst 1, 1) := by decide +kernel
theorem d_TrustDeskLaw_law_572 : decode kY_TrustDeskLaw_law.2.1 572 = .ok (.iadd, 1) := by decide +kernel
theorem d_TrustDeskLaw_law_573 : decode kY_TrustDeskLaw_law.2.1 573 = .ok (.iaload, 1) := by decide +kernel
theorem d_TrustDeskLaw_law_574 : decode kY_TrustDeskLaw_law.2.1 574 = .ok (.aload_n 0, 1) := by decide +kernel
theorem d_TrustDeskLaw_law_575 : decode kY_TrustDeskLaw_law.2.1 575 = .ok (.iload 4, 2) := by decide +kernel
theorem d_TrustDeskLaw_law_577 : decode kY_TrustDeskLaw_law.2.1 577 = .ok (.iconst 2, 1) := by decide +kernel
theorem d_TrustDeskLaw_law_578 : decode kY_TrustDeskLaw_law.2.1 578 = .ok (.iadd, 1) := by decide +kernel
theorem d_TrustDeskLaw_law_579 : decode kY_TrustDeskLaw_law.2.1 579 = .ok (.iaload, 1) := by decide +kernel
theorem d_TrustDeskLaw_law_580 : decode kY_TrustDeskLaw_law.2.1 580 = .ok (.invokevirtual 68, 3) := by decide +kernel
theorem lV_TrustDeskLaw_68 : mj_lV "TrustDeskLaw" 68 kY_TrustDeskModel_trustee 2 := ⟨⟨(mj_in1 (List.mem_of_getElem? (i := 1901) (by decide +kernel)) rfl), (mj_in1 (List.mem_of_getElem? (i := 10) (by decide +kernel)) rfl), (mj_in1 (List.mem_of_getElem? (i := 1904) (by decide +kernel)) rfl), by decide, rfl, by decide⟩, (mj_in1 (List.mem_of_getElem? (i := 1902) (by decide +kernel)) rfl), (mj_in1 (List.mem_of_getElem? (i := 1903) (by decide +kernel)) rfl)⟩
theorem d_TrustDeskLaw_law_583 : decode kY_TrustDeskLaw_law.2.1 583 = .ok (.pop, 1) := by decide +kernel
theorem d_TrustDeskLaw_law_584 : decode kY_TrustDeskLaw_law.2.1 584 = .ok (.goto 897, 3) := by decide +kernel
set_option maxHeartbeats 4000000 in
theorem lx_case_10 {g : mj_G} {l : Launch} {d n Lf kc ks : Nat} {T : tm_H} {M : mj_M} {i t : Int32} (hlt : l.stackTraces = false) (h0 : 0 ≤ i.toInt) (hi : i.toInt + 6 ≤ (mj_L g : Int)) (hL : mj_L g ≤ 3072) (LI : lx_I T M n Lf t t) (k0 : lx_K T M n t) (kk : ∀ (T1 : tm_H) (M1 : mj_M) (n1 : Nat) (t1 : Int32), lx_I T1 M1 n1 Lf t1 t1 → lx_K T1 M1 n1 t1 → mj_V g l kY_TrustDeskLaw_law (d + 28) 1481 (lx_lv i) [] M1 n1 kc ks lx_Q) : mj_V g l kY_TrustDeskLaw_law (d + 28) 550 (lx_lv i) [] M n (kc + 1100) (ks + 14000) lx_Q := by
  refine mv_aload_n d_TrustDeskLaw_law_550 rfl rfl ?_
  refine lx_ld (k := 1) (c := 1) h0 hi hL (by decide) (by decide) d_TrustDeskLaw_law_551 d_TrustDeskLaw_law_552 (mv_iconst d_TrustDeskLaw_law_554 (by decide)) d_TrustDeskLaw_law_555 d_TrustDeskLaw_law_556 ?_
  refine lx_ld (k := 2) (c := 2) h0 hi hL (by decide) (by decide) d_TrustDeskLaw_law_557 d_TrustDeskLaw_law_558 (mv_iconst d_TrustDeskLaw_law_560 (by decide)) d_TrustDeskLaw_law_561 d_TrustDeskLaw_law_562 ?_
  obtain ⟨_, b2, -⟩ := LI.1.1 _ _ LI.2.1
  refine mv_callV (kc' := kc + 1100) (ks' := ks + 14000) (As := [.int (mj_xs g (i.toNatClampNeg + 1)), .int (mj_xs g (i.toNatClampNeg + 2))]) (st9 := [.int (mj_xs g (i.toNatClampNeg + 2)), .int (mj_xs g (i.toNatClampNeg + 1)), .ref 64]) d_TrustDeskLaw_law_563 lV_TrustDeskLaw_64 b2 rfl (tc_TrustDesk_trustee (d := d + 23) (x9 := 0) (o0 := 64) (x1 := (mj_xs g (i.toNatClampNeg + 1))) (x2 := (mj_xs g (i.toNatClampNeg + 2))) LI.2.1 LI.1.start) rfl (Nat.le_of_ble_eq_true rfl) (by omega) (by omega) (hst := rfl) (fun r3 M4 n5 h6 => ?_)
  obtain ⟨T7, J8, v9, rfl, -, -⟩ := h6
  have LI10 := LI.desk J8 (lx_ok (by decide))
  have k1 := lx_Kkeep LI J8 (lx_ok (by decide)) k0
  refine mv_pop d_TrustDeskLaw_law_566 rfl ?_
  refine mv_aload_n d_TrustDeskLaw_law_567 rfl rfl ?_
  refine lx_ld (k := 1) (c := 1) h0 hi hL (by decide) (by decide) d_TrustDeskLaw_law_568 d_TrustDeskLaw_law_569 (mv_iconst d_TrustDeskLaw_law_571 (by decide)) d_TrustDeskLaw_law_572 d_TrustDeskLaw_law_573 ?_
  refine lx_ld (k := 2) (c := 2) h0 hi hL (by decide) (by decide) d_TrustDeskLaw_law_574 d_TrustDeskLaw_law_575 (mv_iconst d_TrustDeskLaw_law_577 (by decide)) d_TrustDeskLaw_law_578 d_TrustDeskLaw_law_579 ?_
  obtain ⟨_, b12, -⟩ := LI10.1.1 _ _ LI10.2.2.1
  refine mv_callV (kc' := kc + 1100) (ks' := ks + 14000) (As := [.int (mj_xs g (i.toNatClampNeg + 1)), .int (mj_xs g (i.toNatClampNeg + 2))]) (st9 := [.int (mj_xs g (i.toNatClampNeg + 2)), .int (mj_xs g (i.toNatClampNeg + 1)), .ref 99]) d_TrustDeskLaw_law_580 lV_TrustDeskLaw_68 b12 rfl (tc_TrustDeskModel_trustee_x (d := d + 25) (x9 := 0) (o0 := 99) (x1 := (mj_xs g (i.toNatClampNeg + 1))) (x2 := (mj_xs g (i.toNatClampNeg + 2))) LI10.2.2.1 LI10.2.2.2.2.2.2.2.2.2.1 LI10.1.start) rfl (Nat.le_of_ble_eq_true rfl) (by omega) (by omega) (hst := rfl) (fun r13 M14 n15 h16 => ?_)
  obtain ⟨T17, J18, v19, rfl, -, -, R21⟩ := h16
  have LI20 := LI10.ref J18 (lx_ok (by decide)) (J18.keep LI10.2.2.1 rfl LI10.2.2.2.2.2.2.2.1) R21 (LI10.2.2.2.2.2.2.2.2.2.2.1.same (sA_c LI10.1 J18 LI10.2.2.1 (by decide +kernel)) (sF_c LI10.1 J18 LI10.2.2.1 (by decide +kernel))) (LI10.2.2.2.2.2.2.2.2.2.2.2.1.same (sA_c LI10.1 J18 LI10.2.2.1 (by decide +kernel)) (sF_c LI10.1 J18 LI10.2.2.1 (by decide +kernel))) (LI10.2.2.2.2.2.2.2.2.2.2.2.2.1.same (sA_c LI10.1 J18 LI10.2.2.1 (by decide +kernel)) (sF_c LI10.1 J18 LI10.2.2.1 (by decide +kernel))) (LI10.2.2.2.2.2.2.2.2.2.2.2.2.2.same (sA_c LI10.1 J18 LI10.2.2.1 (by decide +kernel)) (sF_c LI10.1 J18 LI10.2.2.1 (by decide +kernel)))
  have k11 := lx_Kkeep LI10 J18 (lx_ok (by decide)) k1
  refine mv_pop d_TrustDeskLaw_law_583 rfl ?_
  refine mv_goto (tgt := 1481) d_TrustDeskLaw_law_584 (by decide) ?_
  exact mv_less (by omega) (by omega) (kk _ _ _ _ LI20 k11)
theorem d_TrustDeskLaw_law_587 : decode kY_TrustDeskLaw_law.2.1 587 = .ok (.aload_n 1, 1) := by decide +kernel
theorem d_TrustDeskLaw_law_588 : decode kY_TrustDeskLaw_law.2.1 588 = .ok (.aload_n 0, 1) := by decide +kernel
theorem d_TrustDeskLaw_law_589 : decode kY_TrustDeskLaw_law.2.1 589 = .ok (.iload 4, 2) := by decide +kernel
theorem d_TrustDeskLaw_law_591 : decode kY_TrustDeskLaw_law.2.1 591 = .ok (.iconst 1, 1) := by decide +kernel
theorem d_TrustDeskLaw_law_592 : decode kY_TrustDeskLaw_law.2.1 592 = .ok (.iadd, 1) := by decide +kernel
theorem d_TrustDeskLaw_law_593 : decode kY_TrustDeskLaw_law.2.1 593 = .ok (.iaload, 1) := by decide +kernel
theorem d_TrustDeskLaw_law_594 : decode kY_TrustDeskLaw_law.2.1 594 = .ok (.aload_n 0, 1) := by decide +kernel
theorem d_TrustDeskLaw_law_595 : decode kY_TrustDeskLaw_law.2.1 595 = .ok (.iload 4, 2) := by decide +kernel
theorem d_TrustDeskLaw_law_597 : decode kY_TrustDeskLaw_law.2.1 597 = .ok (.iconst 2, 1) := by decide +kernel
theorem d_TrustDeskLaw_law_598 : decode kY_TrustDeskLaw_law.2.1 598 = .ok (.iadd, 1) := by decide +kernel
theorem d_TrustDeskLaw_law_599 : decode kY_TrustDeskLaw_law.2.1 599 = .ok (.iaload, 1) := by decide +kernel
theorem d_TrustDeskLaw_law_600 : decode kY_TrustDeskLaw_law.2.1 600 = .ok (.aload_n 0, 1) := by decide +kernel
theorem d_TrustDeskLaw_law_601 : decode kY_TrustDeskLaw_law.2.1 601 = .ok (.iload 4, 2) := by decide +kernel
theorem d_TrustDeskLaw_law_603 : decode kY_TrustDeskLaw_law.2.1 603 = .ok (.iconst 3, 1) := by decide +kernel
theorem d_TrustDeskLaw_law_604 : decode kY_TrustDeskLaw_law.2.1 604 = .ok (.iadd, 1) := by decide +kernel
theorem d_TrustDeskLaw_law_605 : decode kY_TrustDeskLaw_law.2.1 605 = .ok (.iaload, 1) := by decide +kernel
theorem d_TrustDeskLaw_law_606 : decode kY_TrustDeskLaw_law.2.1 606 = .ok (.invokevirtual 69, 3) := by decide +kernel
theorem lV_TrustDeskLaw_69 : mj_lV "TrustDeskLaw" 69 kY_TrustDesk_propose 3 := ⟨⟨(mj_in1 (List.mem_of_getElem? (i := 949) (by decide +kernel)) rfl), (mj_in1 (List.mem_of_getElem? (i := 1) (by decide +kernel)) rfl), (mj_in1 (List.mem_of_getElem? (i := 952) (by decide +kernel)) rfl), by decide, rfl, by decide⟩, (mj_in1 (List.mem_of_getElem? (i := 950) (by decide +kernel)) rfl), (mj_in1 (List.mem_of_getElem? (i := 951) (by decide +kernel)) rfl)⟩
theorem d_TrustDeskLaw_law_609 : decode kY_TrustDeskLaw_law.2.1 609 = .ok (.pop, 1) := by decide +kernel
theorem d_TrustDeskLaw_law_610 : decode kY_TrustDeskLaw_law.2.1 610 = .ok (.aload_n 2, 1) := by decide +kernel
theorem d_TrustDeskLaw_law_611 : decode kY_TrustDeskLaw_law.2.1 611 = .ok (.aload_n 0, 1) := by decide +kernel
theorem d_TrustDeskLaw_law_612 : decode kY_TrustDeskLaw_law.2.1 612 = .ok (.iload 4, 2) := by decide +kernel
theorem d_TrustDeskLaw_law_614 : decode kY_TrustDeskLaw_law.2.1 614 = .ok (.iconst 1, 1) := by decide +kernel
theorem d_TrustDeskLaw_law_615 : decode kY_TrustDeskLaw_law.2.1 615 = .ok (.iadd, 1) := by decide +kernel
theorem d_TrustDeskLaw_law_616 : decode kY_TrustDeskLaw_law.2.1 616 = .ok (.iaload, 1) := by decide +kernel
theorem d_TrustDeskLaw_law_617 : decode kY_TrustDeskLaw_law.2.1 617 = .ok (.aload_n 0, 1) := by decide +kernel
theorem d_TrustDeskLaw_law_618 : decode kY_TrustDeskLaw_law.2.1 618 = .ok (.iload 4, 2) := by decide +kernel
theorem d_TrustDeskLaw_law_620 : decode kY_TrustDeskLaw_law.2.1 620 = .ok (.iconst 2, 1) := by decide +kernel
theorem d_TrustDeskLaw_law_621 : decode kY_TrustDeskLaw_law.2.1 621 = .ok (.iadd, 1) := by decide +kernel
theorem d_TrustDeskLaw_law_622 : decode kY_TrustDeskLaw_law.2.1 622 = .ok (.iaload, 1) := by decide +kernel
theorem d_TrustDeskLaw_law_623 : decode kY_TrustDeskLaw_law.2.1 623 = .ok (.aload_n 0, 1) := by decide +kernel
theorem d_TrustDeskLaw_law_624 : decode kY_TrustDeskLaw_law.2.1 624 = .ok (.iload 4, 2) := by decide +kernel
theorem d_TrustDeskLaw_law_626 : decode kY_TrustDeskLaw_law.2.1 626 = .ok (.iconst 3, 1) := by decide +kernel
theorem d_TrustDeskLaw_law_627 : decode kY_TrustDeskLaw_law.2.1 627 = .ok (.iadd, 1) := by decide +kernel
theorem d_TrustDeskLaw_law_628 : decode kY_TrustDeskLaw_law.2.1 628 = .ok (.iaload, 1) := by decide +kernel
theorem d_TrustDeskLaw_law_629 : decode kY_TrustDeskLaw_law.2.1 629 = .ok (.invokevirtual 72, 3) := by decide +kernel
theorem lV_TrustDeskLaw_72 : mj_lV "TrustDeskLaw" 72 kY_TrustDeskModel_propose 3 := ⟨⟨(mj_in1 (List.mem_of_getElem? (i := 1916) (by decide +kernel)) rfl), (mj_in1 (List.mem_of_getElem? (i := 10) (by decide +kernel)) rfl), (mj_in1 (List.mem_of_getElem? (i := 1919) (by decide +kernel)) rfl), by decide, rfl, by decide⟩, (mj_in1 (List.mem_of_getElem? (i := 1917) (by decide +kernel)) rfl), (mj_in1 (List.mem_of_getElem? (i := 1918) (by decide +kernel)) rfl)⟩
theorem d_TrustDeskLaw_law_632 : decode kY_TrustDeskLaw_law.2.1 632 = .ok (.pop, 1) := by decide +kernel
theorem d_TrustDeskLaw_law_633 : decode kY_TrustDeskLaw_law.2.1 633 = .ok (.goto 848, 3) := by decide +kernel
set_option maxHeartbeats 4000000 in
theorem lx_case_11 {g : mj_G} {l : Launch} {d n Lf kc ks : Nat} {T : tm_H} {M : mj_M} {i t : Int32} (hlt : l.stackTraces = false) (h0 : 0 ≤ i.toInt) (hi : i.toInt + 6 ≤ (mj_L g : Int)) (hL : mj_L g ≤ 3072) (LI : lx_I T M n Lf t t) (k0 : lx_K T M n t) (kk : ∀ (T1 : tm_H) (M1 : mj_M) (n1 : Nat) (t1 : Int32), lx_I T1 M1 n1 Lf t1 t1 → lx_K T1 M1 n1 t1 → mj_V g l kY_TrustDeskLaw_law (d + 28) 1481 (lx_lv i) [] M1 n1 kc ks lx_Q) : mj_V g l kY_TrustDeskLaw_law (d + 28) 587 (lx_lv i) [] M n (kc + 1100) (ks + 14000) lx_Q := by
  refine mv_aload_n d_TrustDeskLaw_law_587 rfl rfl ?_
  refine lx_ld (k := 1) (c := 1) h0 hi hL (by decide) (by decide) d_TrustDeskLaw_law_588 d_TrustDeskLaw_law_589 (mv_iconst d_TrustDeskLaw_law_591 (by decide)) d_TrustDeskLaw_law_592 d_TrustDeskLaw_law_593 ?_
  refine lx_ld (k := 2) (c := 2) h0 hi hL (by decide) (by decide) d_TrustDeskLaw_law_594 d_TrustDeskLaw_law_595 (mv_iconst d_TrustDeskLaw_law_597 (by decide)) d_TrustDeskLaw_law_598 d_TrustDeskLaw_law_599 ?_
  refine lx_ld (k := 3) (c := 3) h0 hi hL (by decide) (by decide) d_TrustDeskLaw_law_600 d_TrustDeskLaw_law_601 (mv_iconst d_TrustDeskLaw_law_603 (by decide)) d_TrustDeskLaw_law_604 d_TrustDeskLaw_law_605 ?_
  obtain ⟨_, b2, -⟩ := LI.1.1 _ _ LI.2.1
  obtain ⟨pb, pn, P9, A9, F9, N9, S9, kD, kM⟩ := id k0
  obtain ⟨Rd, La, Lg, Ln, Ls, vp, ka, kf, kn, ks9, ⟨hR, qR⟩, yB, ⟨yp, ep⟩, lA, lF, lN, lS⟩ := id kD
  refine mv_callV (kc' := kc + 1096) (ks' := ks + 13698) (As := [.int (mj_xs g (i.toNatClampNeg + 1)), .int (mj_xs g (i.toNatClampNeg + 2)), .int (mj_xs g (i.toNatClampNeg + 3))]) (st9 := [.int (mj_xs g (i.toNatClampNeg + 3)), .int (mj_xs g (i.toNatClampNeg + 2)), .int (mj_xs g (i.toNatClampNeg + 1)), .ref 64]) d_TrustDeskLaw_law_606 lV_TrustDeskLaw_69 b2 rfl (tc_TrustDesk_propose_r (d := d + 20) (x9 := 0) (o0 := 64) (x1 := (mj_xs g (i.toNatClampNeg + 1))) (x2 := (mj_xs g (i.toNatClampNeg + 2))) (x3 := (mj_xs g (i.toNatClampNeg + 3))) LI.2.1 lF.1 lF.2.1 lF.2.2.1 lN.1 lN.2.1 lN.2.2.1 lS.1 lS.2.1 lS.2.2.1 LI.1.start) rfl (Nat.le_of_ble_eq_true rfl) (by omega) (by omega) (hst := rfl) (fun r3 M4 n5 h6 => ?_)
  obtain ⟨T7, J8, v9, rfl, q11⟩ := h6
  have LI10 := LI.desk J8 (lx_ok (by decide))
  refine mv_pop d_TrustDeskLaw_law_609 rfl ?_
  refine mv_aload_n d_TrustDeskLaw_law_610 rfl rfl ?_
  refine lx_ld (k := 1) (c := 1) h0 hi hL (by decide) (by decide) d_TrustDeskLaw_law_611 d_TrustDeskLaw_law_612 (mv_iconst d_TrustDeskLaw_law_614 (by decide)) d_TrustDeskLaw_law_615 d_TrustDeskLaw_law_616 ?_
  refine lx_ld (k := 2) (c := 2) h0 hi hL (by decide) (by decide) d_TrustDeskLaw_law_617 d_TrustDeskLaw_law_618 (mv_iconst d_TrustDeskLaw_law_620 (by decide)) d_TrustDeskLaw_law_621 d_TrustDeskLaw_law_622 ?_
  refine lx_ld (k := 3) (c := 3) h0 hi hL (by decide) (by decide) d_TrustDeskLaw_law_623 d_TrustDeskLaw_law_624 (mv_iconst d_TrustDeskLaw_law_626 (by decide)) d_TrustDeskLaw_law_627 d_TrustDeskLaw_law_628 ?_
  obtain ⟨_, b13, -⟩ := LI10.1.1 _ _ LI10.2.2.1
  have hX22 := lx_X LI J8 rfl rfl rfl kM.1
  refine mv_callV (kc' := kc + 1096) (ks' := ks + 13698) (As := [.int (mj_xs g (i.toNatClampNeg + 1)), .int (mj_xs g (i.toNatClampNeg + 2)), .int (mj_xs g (i.toNatClampNeg + 3))]) (st9 := [.int (mj_xs g (i.toNatClampNeg + 3)), .int (mj_xs g (i.toNatClampNeg + 2)), .int (mj_xs g (i.toNatClampNeg + 1)), .ref 99]) d_TrustDeskLaw_law_629 lV_TrustDeskLaw_72 b13 rfl (tc_TrustDeskModel_propose_z (d := d + 25) (x9 := 0) (o0 := 99) (x1 := (mj_xs g (i.toNatClampNeg + 1))) (x2 := (mj_xs g (i.toNatClampNeg + 2))) (x3 := (mj_xs g (i.toNatClampNeg + 3))) LI10.2.2.1 LI10.2.2.2.2.2.2.2.2.2.1 LI10.2.2.2.2.2.2.2.2.2.2.1.2.2.1 LI10.2.2.2.2.2.2.2.2.2.2.2.2.2 LI10.1.start) rfl (Nat.le_of_ble_eq_true rfl) (by omega) (by omega) (hst := rfl) (fun r14 M15 n16 h17 => ?_)
  obtain ⟨T18, J19, v20, rfl, R25, f23, f24⟩ := h17
  have LI21 := LI10.ref J19 (lx_ok (by decide)) (J19.keep LI10.2.2.1 rfl LI10.2.2.2.2.2.2.2.1) R25 (LI10.2.2.2.2.2.2.2.2.2.2.1.same (sA_c LI10.1 J19 LI10.2.2.1 (by decide +kernel)) (sF_c LI10.1 J19 LI10.2.2.1 (by decide +kernel))) (LI10.2.2.2.2.2.2.2.2.2.2.2.1.same (sA_c LI10.1 J19 LI10.2.2.1 (by decide +kernel)) (sF_c LI10.1 J19 LI10.2.2.1 (by decide +kernel))) (LI10.2.2.2.2.2.2.2.2.2.2.2.2.1.same (sA_c LI10.1 J19 LI10.2.2.1 (by decide +kernel)) (sF_c LI10.1 J19 LI10.2.2.1 (by decide +kernel))) f23
  have hr21 : rv M4 99 21 = vp.toInt := (rv_c LI.1 J8 LI.2.2.1 (k := 21) rfl).trans (kM.2.1.trans ep.symm)
  have hr27 : rv M4 99 27 = ka.toInt := (rv_c LI.1 J8 LI.2.2.1 (k := 27) rfl).trans (kM.2.2.1.trans lA.2.2.2.symm)
  have := LI10.2.2.2.2.2.2.2.2.2.1.1 27 _ _ rfl
  have hr32 : rv M4 99 32 = kf.toInt := (rv_c LI.1 J8 LI.2.2.1 (k := 32) rfl).trans (kM.2.2.2.1.trans lF.2.2.2.symm)
  have := LI10.2.2.2.2.2.2.2.2.2.1.1 32 _ _ rfl
  have hr49 : rv M4 99 49 = kn.toInt := (rv_c LI.1 J8 LI.2.2.1 (k := 49) rfl).trans (kM.2.2.2.2.1.trans lN.2.2.2.symm)
  have := LI10.2.2.2.2.2.2.2.2.2.1.1 49 _ _ rfl
  have hr53 : rv M4 99 53 = ks9.toInt := (rv_c LI.1 J8 LI.2.2.1 (k := 53) rfl).trans (kM.2.2.2.2.2.trans lS.2.2.2.symm)
  have := LI10.2.2.2.2.2.2.2.2.2.1.1 53 _ _ rfl
  obtain ⟨e9, k1, z3, z6⟩ := lx_prop q11 f24 ⟨fun h => by omega, fun h => by omega⟩ hr53
  have kD1 : lx_KD T7 M4 pb pn P9 A9 F9 N9 k1.toInt := ⟨Rd, La, Lg, Ln, Ls, vp, ka, kf, kn, k1, ⟨J8.up hR, J8.keep LI.2.1 rfl qR⟩, yB.keep LI.1.1 J8 hR rfl rfl rfl, ⟨J8.keep hR rfl yp, ep⟩, lA.keep LI J8 rfl rfl, lF.keep LI J8 rfl rfl, lN.keep LI J8 rfl rfl, ⟨J8.up lS.1, J8.keep LI.2.1 rfl lS.2.1, z3, rfl⟩⟩
  have k9 : lx_K T18 M15 n16 t := ⟨pb, pn, _, _, _, _, _, kD1.keep LI10 J19 (lx_ok (by decide)), lx_X LI10 J19 rfl rfl rfl hX22, ((rv_c LI10.1 J19 LI10.2.2.1 (k := 21) rfl).trans ((rv_c LI.1 J8 LI.2.2.1 (k := 21) rfl).trans kM.2.1)), ((rv_c LI10.1 J19 LI10.2.2.1 (k := 27) rfl).trans ((rv_c LI.1 J8 LI.2.2.1 (k := 27) rfl).trans kM.2.2.1)), ((rv_c LI10.1 J19 LI10.2.2.1 (k := 32) rfl).trans ((rv_c LI.1 J8 LI.2.2.1 (k := 32) rfl).trans kM.2.2.2.1)), ((rv_c LI10.1 J19 LI10.2.2.1 (k := 49) rfl).trans ((rv_c LI.1 J8 LI.2.2.1 (k := 49) rfl).trans kM.2.2.2.2.1)), z6⟩
  have e8 : v9.toInt = v20.toInt := e9
  refine mv_pop d_TrustDeskLaw_law_632 rfl ?_
  refine mv_goto (tgt := 1481) d_TrustDeskLaw_law_633 (by decide) ?_
  exact mv_less (by omega) (by omega) (kk _ _ _ _ LI21 k9)
theorem d_TrustDeskLaw_law_636 : decode kY_TrustDeskLaw_law.2.1 636 = .ok (.aload_n 1, 1) := by decide +kernel
theorem d_TrustDeskLaw_law_637 : decode kY_TrustDeskLaw_law.2.1 637 = .ok (.aload_n 0, 1) := by decide +kernel
theorem d_TrustDeskLaw_law_638 : decode kY_TrustDeskLaw_law.2.1 638 = .ok (.iload 4, 2) := by decide +kernel
theorem d_TrustDeskLaw_law_640 : decode kY_TrustDeskLaw_law.2.1 640 = .ok (.iconst 1, 1) := by decide +kernel
theorem d_TrustDeskLaw_law_641 : decode kY_TrustDeskLaw_law.2.1 641 = .ok (.iadd, 1) := by decide +kernel
theorem d_TrustDeskLaw_law_642 : decode kY_TrustDeskLaw_law.2.1 642 = .ok (.iaload, 1) := by decide +kernel
theorem d_TrustDeskLaw_law_643 : decode kY_TrustDeskLaw_law.2.1 643 = .ok (.aload_n 0, 1) := by decide +kernel
theorem d_TrustDeskLaw_law_644 : decode kY_TrustDeskLaw_law.2.1 644 = .ok (.iload 4, 2) := by decide +kernel
theorem d_TrustDeskLaw_law_646 : decode kY_TrustDeskLaw_law.2.1 646 = .ok (.iconst 2, 1) := by decide +kernel
theorem d_TrustDeskLaw_law_647 : decode kY_TrustDeskLaw_law.2.1 647 = .ok (.iadd, 1) := by decide +kernel
theorem d_TrustDeskLaw_law_648 : decode kY_TrustDeskLaw_law.2.1 648 = .ok (.iaload, 1) := by decide +kernel
theorem d_TrustDeskLaw_law_649 : decode kY_TrustDeskLaw_law.2.1 649 = .ok (.invokevirtual 73, 3) := by decide +kernel
theorem lV_TrustDeskLaw_73 : mj_lV "TrustDeskLaw" 73 kY_TrustDesk_objects 2 := ⟨⟨(mj_in1 (List.mem_of_getElem? (i := 1013) (by decide +kernel)) rfl), (mj_in1 (List.mem_of_getElem? (i := 1) (by decide +kernel)) rfl), (mj_in1 (List.mem_of_getElem? (i := 1016) (by decide +kernel)) rfl), by decide, rfl, by decide⟩, (mj_in1 (List.mem_of_getElem? (i := 1014) (by decide +kernel)) rfl), (mj_in1 (List.mem_of_getElem? (i := 1015) (by decide +kernel)) rfl)⟩
theorem d_TrustDeskLaw_law_652 : decode kY_TrustDeskLaw_law.2.1 652 = .ok (.pop, 1) := by decide +kernel
theorem d_TrustDeskLaw_law_653 : decode kY_TrustDeskLaw_law.2.1 653 = .ok (.aload_n 2, 1) := by decide +kernel
theorem d_TrustDeskLaw_law_654 : decode kY_TrustDeskLaw_law.2.1 654 = .ok (.aload_n 0, 1) := by decide +kernel
theorem d_TrustDeskLaw_law_655 : decode kY_TrustDeskLaw_law.2.1 655 = .ok (.iload 4, 2) := by decide +kernel
theorem d_TrustDeskLaw_law_657 : decode kY_TrustDeskLaw_law.2.1 657 = .ok (.iconst 1, 1) := by decide +kernel
theorem d_TrustDeskLaw_law_658 : decode kY_TrustDeskLaw_law.2.1 658 = .ok (.iadd, 1) := by decide +kernel
theorem d_TrustDeskLaw_law_659 : decode kY_TrustDeskLaw_law.2.1 659 = .ok (.iaload, 1) := by decide +kernel
theorem d_TrustDeskLaw_law_660 : decode kY_TrustDeskLaw_law.2.1 660 = .ok (.aload_n 0, 1) := by decide +kernel
theorem d_TrustDeskLaw_law_661 : decode kY_TrustDeskLaw_law.2.1 661 = .ok (.iload 4, 2) := by decide +kernel
theorem d_TrustDeskLaw_law_663 : decode kY_TrustDeskLaw_law.2.1 663 = .ok (.iconst 2, 1) := by decide +kernel
theorem d_TrustDeskLaw_law_664 : decode kY_TrustDeskLaw_law.2.1 664 = .ok (.iadd, 1) := by decide +kernel
theorem d_TrustDeskLaw_law_665 : decode kY_TrustDeskLaw_law.2.1 665 = .ok (.iaload, 1) := by decide +kernel
theorem d_TrustDeskLaw_law_666 : decode kY_TrustDeskLaw_law.2.1 666 = .ok (.invokevirtual 76, 3) := by decide +kernel
theorem lV_TrustDeskLaw_76 : mj_lV "TrustDeskLaw" 76 kY_TrustDeskModel_objects 2 := ⟨⟨(mj_in1 (List.mem_of_getElem? (i := 1921) (by decide +kernel)) rfl), (mj_in1 (List.mem_of_getElem? (i := 10) (by decide +kernel)) rfl), (mj_in1 (List.mem_of_getElem? (i := 1924) (by decide +kernel)) rfl), by decide, rfl, by decide⟩, (mj_in1 (List.mem_of_getElem? (i := 1922) (by decide +kernel)) rfl), (mj_in1 (List.mem_of_getElem? (i := 1923) (by decide +kernel)) rfl)⟩
theorem d_TrustDeskLaw_law_669 : decode kY_TrustDeskLaw_law.2.1 669 = .ok (.pop, 1) := by decide +kernel
theorem d_TrustDeskLaw_law_670 : decode kY_TrustDeskLaw_law.2.1 670 = .ok (.goto 811, 3) := by decide +kernel
set_option maxHeartbeats 4000000 in
theorem lx_case_12 {g : mj_G} {l : Launch} {d n Lf kc ks : Nat} {T : tm_H} {M : mj_M} {i t : Int32} (hlt : l.stackTraces = false) (h0 : 0 ≤ i.toInt) (hi : i.toInt + 6 ≤ (mj_L g : Int)) (hL : mj_L g ≤ 3072) (LI : lx_I T M n Lf t t) (k0 : lx_K T M n t) (kk : ∀ (T1 : tm_H) (M1 : mj_M) (n1 : Nat) (t1 : Int32), lx_I T1 M1 n1 Lf t1 t1 → lx_K T1 M1 n1 t1 → mj_V g l kY_TrustDeskLaw_law (d + 28) 1481 (lx_lv i) [] M1 n1 kc ks lx_Q) : mj_V g l kY_TrustDeskLaw_law (d + 28) 636 (lx_lv i) [] M n (kc + 1100) (ks + 14000) lx_Q := by
  refine mv_aload_n d_TrustDeskLaw_law_636 rfl rfl ?_
  refine lx_ld (k := 1) (c := 1) h0 hi hL (by decide) (by decide) d_TrustDeskLaw_law_637 d_TrustDeskLaw_law_638 (mv_iconst d_TrustDeskLaw_law_640 (by decide)) d_TrustDeskLaw_law_641 d_TrustDeskLaw_law_642 ?_
  refine lx_ld (k := 2) (c := 2) h0 hi hL (by decide) (by decide) d_TrustDeskLaw_law_643 d_TrustDeskLaw_law_644 (mv_iconst d_TrustDeskLaw_law_646 (by decide)) d_TrustDeskLaw_law_647 d_TrustDeskLaw_law_648 ?_
  obtain ⟨_, b2, -⟩ := LI.1.1 _ _ LI.2.1
  refine mv_callV (kc' := kc + 1100) (ks' := ks + 14000) (As := [.int (mj_xs g (i.toNatClampNeg + 1)), .int (mj_xs g (i.toNatClampNeg + 2))]) (st9 := [.int (mj_xs g (i.toNatClampNeg + 2)), .int (mj_xs g (i.toNatClampNeg + 1)), .ref 64]) d_TrustDeskLaw_law_649 lV_TrustDeskLaw_73 b2 rfl (tc_TrustDesk_objects (d := d + 23) (x9 := 0) (o0 := 64) (x1 := (mj_xs g (i.toNatClampNeg + 1))) (x2 := (mj_xs g (i.toNatClampNeg + 2))) LI.2.1 LI.1.start) rfl (Nat.le_of_ble_eq_true rfl) (by omega) (by omega) (hst := rfl) (fun r3 M4 n5 h6 => ?_)
  obtain ⟨T7, J8, v9, rfl, -, -⟩ := h6
  have LI10 := LI.desk J8 (lx_ok (by decide))
  have k1 := lx_Kkeep LI J8 (lx_ok (by decide)) k0
  refine mv_pop d_TrustDeskLaw_law_652 rfl ?_
  refine mv_aload_n d_TrustDeskLaw_law_653 rfl rfl ?_
  refine lx_ld (k := 1) (c := 1) h0 hi hL (by decide) (by decide) d_TrustDeskLaw_law_654 d_TrustDeskLaw_law_655 (mv_iconst d_TrustDeskLaw_law_657 (by decide)) d_TrustDeskLaw_law_658 d_TrustDeskLaw_law_659 ?_
  refine lx_ld (k := 2) (c := 2) h0 hi hL (by decide) (by decide) d_TrustDeskLaw_law_660 d_TrustDeskLaw_law_661 (mv_iconst d_TrustDeskLaw_law_663 (by decide)) d_TrustDeskLaw_law_664 d_TrustDeskLaw_law_665 ?_
  obtain ⟨_, b12, -⟩ := LI10.1.1 _ _ LI10.2.2.1
  refine mv_callV (kc' := kc + 1100) (ks' := ks + 14000) (As := [.int (mj_xs g (i.toNatClampNeg + 1)), .int (mj_xs g (i.toNatClampNeg + 2))]) (st9 := [.int (mj_xs g (i.toNatClampNeg + 2)), .int (mj_xs g (i.toNatClampNeg + 1)), .ref 99]) d_TrustDeskLaw_law_666 lV_TrustDeskLaw_76 b12 rfl (tc_TrustDeskModel_objects_x (d := d + 26) (x9 := 0) (o0 := 99) (x1 := (mj_xs g (i.toNatClampNeg + 1))) (x2 := (mj_xs g (i.toNatClampNeg + 2))) LI10.2.2.1 LI10.2.2.2.2.2.2.2.2.2.1 LI10.1.start) rfl (Nat.le_of_ble_eq_true rfl) (by omega) (by omega) (hst := rfl) (fun r13 M14 n15 h16 => ?_)
  obtain ⟨T17, J18, v19, rfl, -, -, R21⟩ := h16
  have LI20 := LI10.ref J18 (lx_ok (by decide)) (J18.keep LI10.2.2.1 rfl LI10.2.2.2.2.2.2.2.1) R21 (LI10.2.2.2.2.2.2.2.2.2.2.1.same (sA_c LI10.1 J18 LI10.2.2.1 (by decide +kernel)) (sF_c LI10.1 J18 LI10.2.2.1 (by decide +kernel))) (LI10.2.2.2.2.2.2.2.2.2.2.2.1.same (sA_c LI10.1 J18 LI10.2.2.1 (by decide +kernel)) (sF_c LI10.1 J18 LI10.2.2.1 (by decide +kernel))) (LI10.2.2.2.2.2.2.2.2.2.2.2.2.1.same (sA_c LI10.1 J18 LI10.2.2.1 (by decide +kernel)) (sF_c LI10.1 J18 LI10.2.2.1 (by decide +kernel))) (LI10.2.2.2.2.2.2.2.2.2.2.2.2.2.same (sA_c LI10.1 J18 LI10.2.2.1 (by decide +kernel)) (sF_c LI10.1 J18 LI10.2.2.1 (by decide +kernel)))
  have k11 := lx_Kkeep LI10 J18 (lx_ok (by decide)) k1
  refine mv_pop d_TrustDeskLaw_law_669 rfl ?_
  refine mv_goto (tgt := 1481) d_TrustDeskLaw_law_670 (by decide) ?_
  exact mv_less (by omega) (by omega) (kk _ _ _ _ LI20 k11)
theorem d_TrustDeskLaw_law_673 : decode kY_TrustDeskLaw_law.2.1 673 = .ok (.aload_n 1, 1) := by decide +kernel
theorem d_TrustDeskLaw_law_674 : decode kY_TrustDeskLaw_law.2.1 674 = .ok (.aload_n 0, 1) := by decide +kernel
theorem d_TrustDeskLaw_law_675 : decode kY_TrustDeskLaw_law.2.1 675 = .ok (.iload 4, 2) := by decide +kernel
theorem d_TrustDeskLaw_law_677 : decode kY_TrustDeskLaw_law.2.1 677 = .ok (.iconst 1, 1) := by decide +kernel
theorem d_TrustDeskLaw_law_678 : decode kY_TrustDeskLaw_law.2.1 678 = .ok (.iadd, 1) := by decide +kernel
theorem d_TrustDeskLaw_law_679 : decode kY_TrustDeskLaw_law.2.1 679 = .ok (.iaload, 1) := by decide +kernel
theorem d_TrustDeskLaw_law_680 : decode kY_TrustDeskLaw_law.2.1 680 = .ok (.aload_n 0, 1) := by decide +kernel
theorem d_TrustDeskLaw_law_681 : decode kY_TrustDeskLaw_law.2.1 681 = .ok (.iload 4, 2) := by decide +kernel
theorem d_TrustDeskLaw_law_683 : decode kY_TrustDeskLaw_law.2.1 683 = .ok (.iconst 2, 1) := by decide +kernel
theorem d_TrustDeskLaw_law_684 : decode kY_TrustDeskLaw_law.2.1 684 = .ok (.iadd, 1) := by decide +kernel
theorem d_TrustDeskLaw_law_685 : decode kY_TrustDeskLaw_law.2.1 685 = .ok (.iaload, 1) := by decide +kernel
theorem d_TrustDeskLaw_law_686 : decode kY_TrustDeskLaw_law.2.1 686 = .ok (.invokevirtual 77, 3) := by decide +kernel
theorem lV_TrustDeskLaw_77 : mj_lV "TrustDeskLaw" 77 kY_TrustDesk_withdraws 2 := ⟨⟨(mj_in1 (List.mem_of_getElem? (i := 1025) (by decide +kernel)) rfl), (mj_in1 (List.mem_of_getElem? (i := 1) (by decide +kernel)) rfl), (mj_in1 (List.mem_of_getElem? (i := 1028) (by decide +kernel)) rfl), by decide, rfl, by decide⟩, (mj_in1 (List.mem_of_getElem? (i := 1026) (by decide +kernel)) rfl), (mj_in1 (List.mem_of_getElem? (i := 1027) (by decide +kernel)) rfl)⟩
theorem d_TrustDeskLaw_law_689 : decode kY_TrustDeskLaw_law.2.1 689 = .ok (.pop, 1) := by decide +kernel
theorem d_TrustDeskLaw_law_690 : decode kY_TrustDeskLaw_law.2.1 690 = .ok (.aload_n 2, 1) := by decide +kernel
theorem d_TrustDeskLaw_law_691 : decode kY_TrustDeskLaw_law.2.1 691 = .ok (.aload_n 0, 1) := by decide +kernel
theorem d_TrustDeskLaw_law_692 : decode kY_TrustDeskLaw_law.2.1 692 = .ok (.iload 4, 2) := by decide +kernel
theorem d_TrustDeskLaw_law_694 : decode kY_TrustDeskLaw_law.2.1 694 = .ok (.iconst 1, 1) := by decide +kernel
theorem d_TrustDeskLaw_law_695 : decode kY_TrustDeskLaw_law.2.1 695 = .ok (.iadd, 1) := by decide +kernel
theorem d_TrustDeskLaw_law_696 : decode kY_TrustDeskLaw_law.2.1 696 = .ok (.iaload, 1) := by decide +kernel
theorem d_TrustDeskLaw_law_697 : decode kY_TrustDeskLaw_law.2.1 697 = .ok (.aload_n 0, 1) := by decide +kernel
theorem d_TrustDeskLaw_law_698 : decode kY_TrustDeskLaw_law.2.1 698 = .ok (.iload 4, 2) := by decide +kernel
theorem d_TrustDeskLaw_law_700 : decode kY_TrustDeskLaw_law.2.1 700 = .ok (.iconst 2, 1) := by decide +kernel
theorem d_TrustDeskLaw_law_701 : decode kY_TrustDeskLaw_law.2.1 701 = .ok (.iadd, 1) := by decide +kernel
theorem d_TrustDeskLaw_law_702 : decode kY_TrustDeskLaw_law.2.1 702 = .ok (.iaload, 1) := by decide +kernel
theorem d_TrustDeskLaw_law_703 : decode kY_TrustDeskLaw_law.2.1 703 = .ok (.invokevirtual 80, 3) := by decide +kernel
theorem lV_TrustDeskLaw_80 : mj_lV "TrustDeskLaw" 80 kY_TrustDeskModel_withdraws 2 := ⟨⟨(mj_in1 (List.mem_of_getElem? (i := 1937) (by decide +kernel)) rfl), (mj_in1 (List.mem_of_getElem? (i := 10) (by decide +kernel)) rfl), (mj_in1 (List.mem_of_getElem? (i := 1940) (by decide +kernel)) rfl), by decide, rfl, by decide⟩, (mj_in1 (List.mem_of_getElem? (i := 1938) (by decide +kernel)) rfl), (mj_in1 (List.mem_of_getElem? (i := 1939) (by decide +kernel)) rfl)⟩
theorem d_TrustDeskLaw_law_706 : decode kY_TrustDeskLaw_law.2.1 706 = .ok (.pop, 1) := by decide +kernel
theorem d_TrustDeskLaw_law_707 : decode kY_TrustDeskLaw_law.2.1 707 = .ok (.goto 774, 3) := by decide +kernel
set_option maxHeartbeats 4000000 in
theorem lx_case_13 {g : mj_G} {l : Launch} {d n Lf kc ks : Nat} {T : tm_H} {M : mj_M} {i t : Int32} (hlt : l.stackTraces = false) (h0 : 0 ≤ i.toInt) (hi : i.toInt + 6 ≤ (mj_L g : Int)) (hL : mj_L g ≤ 3072) (LI : lx_I T M n Lf t t) (k0 : lx_K T M n t) (kk : ∀ (T1 : tm_H) (M1 : mj_M) (n1 : Nat) (t1 : Int32), lx_I T1 M1 n1 Lf t1 t1 → lx_K T1 M1 n1 t1 → mj_V g l kY_TrustDeskLaw_law (d + 28) 1481 (lx_lv i) [] M1 n1 kc ks lx_Q) : mj_V g l kY_TrustDeskLaw_law (d + 28) 673 (lx_lv i) [] M n (kc + 1100) (ks + 14000) lx_Q := by
  refine mv_aload_n d_TrustDeskLaw_law_673 rfl rfl ?_
  refine lx_ld (k := 1) (c := 1) h0 hi hL (by decide) (by decide) d_TrustDeskLaw_law_674 d_TrustDeskLaw_law_675 (mv_iconst d_TrustDeskLaw_law_677 (by decide)) d_TrustDeskLaw_law_678 d_TrustDeskLaw_law_679 ?_
  refine lx_ld (k := 2) (c := 2) h0 hi hL (by decide) (by decide) d_TrustDeskLaw_law_680 d_TrustDeskLaw_law_681 (mv_iconst d_TrustDeskLaw_law_683 (by decide)) d_TrustDeskLaw_law_684 d_TrustDeskLaw_law_685 ?_
  obtain ⟨_, b2, -⟩ := LI.1.1 _ _ LI.2.1
  refine mv_callV (kc' := kc + 1100) (ks' := ks + 14000) (As := [.int (mj_xs g (i.toNatClampNeg + 1)), .int (mj_xs g (i.toNatClampNeg + 2))]) (st9 := [.int (mj_xs g (i.toNatClampNeg + 2)), .int (mj_xs g (i.toNatClampNeg + 1)), .ref 64]) d_TrustDeskLaw_law_686 lV_TrustDeskLaw_77 b2 rfl (tc_TrustDesk_withdraws (d := d + 23) (x9 := 0) (o0 := 64) (x1 := (mj_xs g (i.toNatClampNeg + 1))) (x2 := (mj_xs g (i.toNatClampNeg + 2))) LI.2.1 LI.1.start) rfl (Nat.le_of_ble_eq_true rfl) (by omega) (by omega) (hst := rfl) (fun r3 M4 n5 h6 => ?_)
  obtain ⟨T7, J8, v9, rfl, -, -⟩ := h6
  have LI10 := LI.desk J8 (lx_ok (by decide))
  have k1 := lx_Kkeep LI J8 (lx_ok (by decide)) k0
  refine mv_pop d_TrustDeskLaw_law_689 rfl ?_
  refine mv_aload_n d_TrustDeskLaw_law_690 rfl rfl ?_
  refine lx_ld (k := 1) (c := 1) h0 hi hL (by decide) (by decide) d_TrustDeskLaw_law_691 d_TrustDeskLaw_law_692 (mv_iconst d_TrustDeskLaw_law_694 (by decide)) d_TrustDeskLaw_law_695 d_TrustDeskLaw_law_696 ?_
  refine lx_ld (k := 2) (c := 2) h0 hi hL (by decide) (by decide) d_TrustDeskLaw_law_697 d_TrustDeskLaw_law_698 (mv_iconst d_TrustDeskLaw_law_700 (by decide)) d_TrustDeskLaw_law_701 d_TrustDeskLaw_law_702 ?_
  obtain ⟨_, b12, -⟩ := LI10.1.1 _ _ LI10.2.2.1
  refine mv_callV (kc' := kc + 1100) (ks' := ks + 14000) (As := [.int (mj_xs g (i.toNatClampNeg + 1)), .int (mj_xs g (i.toNatClampNeg + 2))]) (st9 := [.int (mj_xs g (i.toNatClampNeg + 2)), .int (mj_xs g (i.toNatClampNeg + 1)), .ref 99]) d_TrustDeskLaw_law_703 lV_TrustDeskLaw_80 b12 rfl (tc_TrustDeskModel_withdraws_x (d := d + 26) (x9 := 0) (o0 := 99) (x1 := (mj_xs g (i.toNatClampNeg + 1))) (x2 := (mj_xs g (i.toNatClampNeg + 2))) LI10.2.2.1 LI10.2.2.2.2.2.2.2.2.2.1 LI10.1.start) rfl (Nat.le_of_ble_eq_true rfl) (by omega) (by omega) (hst := rfl) (fun r13 M14 n15 h16 => ?_)
  obtain ⟨T17, J18, v19, rfl, -, -, R21⟩ := h16
  have LI20 := LI10.ref J18 (lx_ok (by decide)) (J18.keep LI10.2.2.1 rfl LI10.2.2.2.2.2.2.2.1) R21 (LI10.2.2.2.2.2.2.2.2.2.2.1.same (sA_c LI10.1 J18 LI10.2.2.1 (by decide +kernel)) (sF_c LI10.1 J18 LI10.2.2.1 (by decide +kernel))) (LI10.2.2.2.2.2.2.2.2.2.2.2.1.same (sA_c LI10.1 J18 LI10.2.2.1 (by decide +kernel)) (sF_c LI10.1 J18 LI10.2.2.1 (by decide +kernel))) (LI10.2.2.2.2.2.2.2.2.2.2.2.2.1.same (sA_c LI10.1 J18 LI10.2.2.1 (by decide +kernel)) (sF_c LI10.1 J18 LI10.2.2.1 (by decide +kernel))) (LI10.2.2.2.2.2.2.2.2.2.2.2.2.2.same (sA_c LI10.1 J18 LI10.2.2.1 (by decide +kernel)) (sF_c LI10.1 J18 LI10.2.2.1 (by decide +kernel)))
  have k11 := lx_Kkeep LI10 J18 (lx_ok (by decide)) k1
  refine mv_pop d_TrustDeskLaw_law_706 rfl ?_
  refine mv_goto (tgt := 1481) d_TrustDeskLaw_law_707 (by decide) ?_
  exact mv_less (by omega) (by omega) (kk _ _ _ _ LI20 k11)
theorem d_TrustDeskLaw_law_710 : decode kY_TrustDeskLaw_law.2.1 710 = .ok (.aload_n 1, 1) := by decide +kernel
theorem d_TrustDeskLaw_law_711 : decode kY_TrustDeskLaw_law.2.1 711 = .ok (.aload_n 0, 1) := by decide +kernel
theorem d_TrustDeskLaw_law_712 : decode kY_TrustDeskLaw_law.2.1 712 = .ok (.iload 4, 2) := by decide +kernel
theorem d_TrustDeskLaw_law_714 : decode kY_TrustDeskLaw_law.2.1 714 = .ok (.iconst 1, 1) := by decide +kernel
theorem d_TrustDeskLaw_law_715 : decode kY_TrustDeskLaw_law.2.1 715 = .ok (.iadd, 1) := by decide +kernel
theorem d_TrustDeskLaw_law_716 : decode kY_TrustDeskLaw_law.2.1 716 = .ok (.iaload, 1) := by decide +kernel
theorem d_TrustDeskLaw_law_717 : decode kY_TrustDeskLaw_law.2.1 717 = .ok (.aload_n 0, 1) := by decide +kernel
theorem d_TrustDeskLaw_law_718 : decode kY_TrustDeskLaw_law.2.1 718 = .ok (.iload 4, 2) := by decide +kernel
theorem d_TrustDeskLaw_law_720 : decode kY_TrustDeskLaw_law.2.1 720 = .ok (.iconst 2, 1) := by decide +kernel
theorem d_TrustDeskLaw_law_721 : decode kY_TrustDeskLaw_law.2.1 721 = .ok (.iadd, 1) := by decide +kernel
theorem d_TrustDeskLaw_law_722 : decode kY_TrustDeskLaw_law.2.1 722 = .ok (.iaload, 1) := by decide +kernel
theorem d_TrustDeskLaw_law_723 : decode kY_TrustDeskLaw_law.2.1 723 = .ok (.aload_n 0, 1) := by decide +kernel
theorem d_TrustDeskLaw_law_724 : decode kY_TrustDeskLaw_law.2.1 724 = .ok (.iload 4, 2) := by decide +kernel
theorem d_TrustDeskLaw_law_726 : decode kY_TrustDeskLaw_law.2.1 726 = .ok (.iconst 3, 1) := by decide +kernel
theorem d_TrustDeskLaw_law_727 : decode kY_TrustDeskLaw_law.2.1 727 = .ok (.iadd, 1) := by decide +kernel
theorem d_TrustDeskLaw_law_728 : decode kY_TrustDeskLaw_law.2.1 728 = .ok (.iaload, 1) := by decide +kernel
theorem d_TrustDeskLaw_law_729 : decode kY_TrustDeskLaw_law.2.1 729 = .ok (.ifCond .eq 7, 3) := by decide +kernel
theorem d_TrustDeskLaw_law_736 : decode kY_TrustDeskLaw_law.2.1 736 = .ok (.iconst 0, 1) := by decide +kernel
theorem d_TrustDeskLaw_law_737 : decode kY_TrustDeskLaw_law.2.1 737 = .ok (.invokevirtual 81, 3) := by decide +kernel
theorem lV_TrustDeskLaw_81 : mj_lV "TrustDeskLaw" 81 kY_TrustDesk_vote 3 := ⟨⟨(mj_in1 (List.mem_of_getElem? (i := 1033) (by decide +kernel)) rfl), (mj_in1 (List.mem_of_getElem? (i := 1) (by decide +kernel)) rfl), (mj_in1 (List.mem_of_getElem? (i := 1036) (by decide +kernel)) rfl), by decide, rfl, by decide⟩, (mj_in1 (List.mem_of_getElem? (i := 1034) (by decide +kernel)) rfl), (mj_in1 (List.mem_of_getElem? (i := 1035) (by decide +kernel)) rfl)⟩
theorem d_TrustDeskLaw_law_740 : decode kY_TrustDeskLaw_law.2.1 740 = .ok (.pop, 1) := by decide +kernel
theorem d_TrustDeskLaw_law_741 : decode kY_TrustDeskLaw_law.2.1 741 = .ok (.aload_n 2, 1) := by decide +kernel
theorem d_TrustDeskLaw_law_742 : decode kY_TrustDeskLaw_law.2.1 742 = .ok (.aload_n 0, 1) := by decide +kernel
theorem d_TrustDeskLaw_law_743 : decode kY_TrustDeskLaw_law.2.1 743 = .ok (.iload 4, 2) := by decide +kernel
theorem d_TrustDeskLaw_law_745 : decode kY_TrustDeskLaw_law.2.1 745 = .ok (.iconst 1, 1) := by decide +kernel
theorem d_TrustDeskLaw_law_746 : decode kY_TrustDeskLaw_law.2.1 746 = .ok (.iadd, 1) := by decide +kernel
theorem d_TrustDeskLaw_law_747 : decode kY_TrustDeskLaw_law.2.1 747 = .ok (.iaload, 1) := by decide +kernel
theorem d_TrustDeskLaw_law_748 : decode kY_TrustDeskLaw_law.2.1 748 = .ok (.aload_n 0, 1) := by decide +kernel
theorem d_TrustDeskLaw_law_749 : decode kY_TrustDeskLaw_law.2.1 749 = .ok (.iload 4, 2) := by decide +kernel
theorem d_TrustDeskLaw_law_751 : decode kY_TrustDeskLaw_law.2.1 751 = .ok (.iconst 2, 1) := by decide +kernel
theorem d_TrustDeskLaw_law_752 : decode kY_TrustDeskLaw_law.2.1 752 = .ok (.iadd, 1) := by decide +kernel
theorem d_TrustDeskLaw_law_753 : decode kY_TrustDeskLaw_law.2.1 753 = .ok (.iaload, 1) := by decide +kernel
theorem d_TrustDeskLaw_law_754 : decode kY_TrustDeskLaw_law.2.1 754 = .ok (.aload_n 0, 1) := by decide +kernel
theorem d_TrustDeskLaw_law_755 : decode kY_TrustDeskLaw_law.2.1 755 = .ok (.iload 4, 2) := by decide +kernel
theorem d_TrustDeskLaw_law_757 : decode kY_TrustDeskLaw_law.2.1 757 = .ok (.iconst 3, 1) := by decide +kernel
theorem d_TrustDeskLaw_law_758 : decode kY_TrustDeskLaw_law.2.1 758 = .ok (.iadd, 1) := by decide +kernel
theorem d_TrustDeskLaw_law_759 : decode kY_TrustDeskLaw_law.2.1 759 = .ok (.iaload, 1) := by decide +kernel
theorem d_TrustDeskLaw_law_760 : decode kY_TrustDeskLaw_law.2.1 760 = .ok (.ifCond .eq 7, 3) := by decide +kernel
theorem d_TrustDeskLaw_law_767 : decode kY_TrustDeskLaw_law.2.1 767 = .ok (.iconst 0, 1) := by decide +kernel
theorem d_TrustDeskLaw_law_768 : decode kY_TrustDeskLaw_law.2.1 768 = .ok (.invokevirtual 85, 3) := by decide +kernel
theorem lV_TrustDeskLaw_85 : mj_lV "TrustDeskLaw" 85 kY_TrustDeskModel_vote 3 := ⟨⟨(mj_in1 (List.mem_of_getElem? (i := 1941) (by decide +kernel)) rfl), (mj_in1 (List.mem_of_getElem? (i := 10) (by decide +kernel)) rfl), (mj_in1 (List.mem_of_getElem? (i := 1944) (by decide +kernel)) rfl), by decide, rfl, by decide⟩, (mj_in1 (List.mem_of_getElem? (i := 1942) (by decide +kernel)) rfl), (mj_in1 (List.mem_of_getElem? (i := 1943) (by decide +kernel)) rfl)⟩
theorem d_TrustDeskLaw_law_771 : decode kY_TrustDeskLaw_law.2.1 771 = .ok (.pop, 1) := by decide +kernel
theorem d_TrustDeskLaw_law_772 : decode kY_TrustDeskLaw_law.2.1 772 = .ok (.goto 709, 3) := by decide +kernel
theorem d_TrustDeskLaw_law_763 : decode kY_TrustDeskLaw_law.2.1 763 = .ok (.iconst 1, 1) := by decide +kernel
theorem d_TrustDeskLaw_law_764 : decode kY_TrustDeskLaw_law.2.1 764 = .ok (.goto 4, 3) := by decide +kernel
theorem d_TrustDeskLaw_law_732 : decode kY_TrustDeskLaw_law.2.1 732 = .ok (.iconst 1, 1) := by decide +kernel
theorem d_TrustDeskLaw_law_733 : decode kY_TrustDeskLaw_law.2.1 733 = .ok (.goto 4, 3) := by decide +kernel
set_option maxHeartbeats 4000000 in
theorem lx_case_14 {g : mj_G} {l : Launch} {d n Lf kc ks : Nat} {T : tm_H} {M : mj_M} {i t : Int32} (hlt : l.stackTraces = false) (h0 : 0 ≤ i.toInt) (hi : i.toInt + 6 ≤ (mj_L g : Int)) (hL : mj_L g ≤ 3072) (LI : lx_I T M n Lf t t) (k0 : lx_K T M n t) (kk : ∀ (T1 : tm_H) (M1 : mj_M) (n1 : Nat) (t1 : Int32), lx_I T1 M1 n1 Lf t1 t1 → lx_K T1 M1 n1 t1 → mj_V g l kY_TrustDeskLaw_law (d + 28) 1481 (lx_lv i) [] M1 n1 kc ks lx_Q) : mj_V g l kY_TrustDeskLaw_law (d + 28) 710 (lx_lv i) [] M n (kc + 1100) (ks + 14000) lx_Q := by
  refine mv_aload_n d_TrustDeskLaw_law_710 rfl rfl ?_
  refine lx_ld (k := 1) (c := 1) h0 hi hL (by decide) (by decide) d_TrustDeskLaw_law_711 d_TrustDeskLaw_law_712 (mv_iconst d_TrustDeskLaw_law_714 (by decide)) d_TrustDeskLaw_law_715 d_TrustDeskLaw_law_716 ?_
  refine lx_ld (k := 2) (c := 2) h0 hi hL (by decide) (by decide) d_TrustDeskLaw_law_717 d_TrustDeskLaw_law_718 (mv_iconst d_TrustDeskLaw_law_720 (by decide)) d_TrustDeskLaw_law_721 d_TrustDeskLaw_law_722 ?_
  refine lx_ld (k := 3) (c := 3) h0 hi hL (by decide) (by decide) d_TrustDeskLaw_law_723 d_TrustDeskLaw_law_724 (mv_iconst d_TrustDeskLaw_law_726 (by decide)) d_TrustDeskLaw_law_727 d_TrustDeskLaw_law_728 ?_
  refine mv_if_eqZ (tgt := 736) (a := (mj_xs g (i.toNatClampNeg + 3)).toInt) d_TrustDeskLaw_law_729 (by decide) rfl (fun b1 => ?_) (fun b1 => ?_)
  · refine mv_iconst (v := 0) d_TrustDeskLaw_law_736 (by decide) ?_
    obtain ⟨_, b3, -⟩ := LI.1.1 _ _ LI.2.1
    refine mv_callV (kc' := kc + 1100) (ks' := ks + 14000) (As := [.int (mj_xs g (i.toNatClampNeg + 1)), .int (mj_xs g (i.toNatClampNeg + 2)), .int 0]) (st9 := [.int 0, .int (mj_xs g (i.toNatClampNeg + 2)), .int (mj_xs g (i.toNatClampNeg + 1)), .ref 64]) d_TrustDeskLaw_law_737 lV_TrustDeskLaw_81 b3 rfl (tc_TrustDesk_vote (d := d + 22) (x9 := 0) (o0 := 64) (x1 := (mj_xs g (i.toNatClampNeg + 1))) (x2 := (mj_xs g (i.toNatClampNeg + 2))) (x3 := 0) LI.2.1 LI.1.start) rfl (Nat.le_of_ble_eq_true rfl) (by omega) (by omega) (hst := rfl) (fun r4 M5 n6 h7 => ?_)
    obtain ⟨T8, J9, v10, rfl, -, -⟩ := h7
    have LI11 := LI.desk J9 (lx_ok (by decide))
    have k2 := lx_Kkeep LI J9 (lx_ok (by decide)) k0
    refine mv_pop d_TrustDeskLaw_law_740 rfl ?_
    refine mv_aload_n d_TrustDeskLaw_law_741 rfl rfl ?_
    refine lx_ld (k := 1) (c := 1) h0 hi hL (by decide) (by decide) d_TrustDeskLaw_law_742 d_TrustDeskLaw_law_743 (mv_iconst d_TrustDeskLaw_law_745 (by decide)) d_TrustDeskLaw_law_746 d_TrustDeskLaw_law_747 ?_
    refine lx_ld (k := 2) (c := 2) h0 hi hL (by decide) (by decide) d_TrustDeskLaw_law_748 d_TrustDeskLaw_law_749 (mv_iconst d_TrustDeskLaw_law_751 (by decide)) d_TrustDeskLaw_law_752 d_TrustDeskLaw_law_753 ?_
    refine lx_ld (k := 3) (c := 3) h0 hi hL (by decide) (by decide) d_TrustDeskLaw_law_754 d_TrustDeskLaw_law_755 (mv_iconst d_TrustDeskLaw_law_757 (by decide)) d_TrustDeskLaw_law_758 d_TrustDeskLaw_law_759 ?_
    refine mv_if_eqZ (tgt := 767) (a := (mj_xs g (i.toNatClampNeg + 3)).toInt) d_TrustDeskLaw_law_760 (by decide) rfl (fun b12 => ?_) (fun b12 => ?_)
    · refine mv_iconst (v := 0) d_TrustDeskLaw_law_767 (by decide) ?_
      obtain ⟨_, b14, -⟩ := LI11.1.1 _ _ LI11.2.2.1
      refine mv_callV (kc' := kc + 1100) (ks' := ks + 14000) (As := [.int (mj_xs g (i.toNatClampNeg + 1)), .int (mj_xs g (i.toNatClampNeg + 2)), .int 0]) (st9 := [.int 0, .int (mj_xs g (i.toNatClampNeg + 2)), .int (mj_xs g (i.toNatClampNeg + 1)), .ref 99]) d_TrustDeskLaw_law_768 lV_TrustDeskLaw_85 b14 rfl (tc_TrustDeskModel_vote_x (d := d + 26) (x9 := 0) (o0 := 99) (x1 := (mj_xs g (i.toNatClampNeg + 1))) (x2 := (mj_xs g (i.toNatClampNeg + 2))) (x3 := 0) LI11.2.2.1 (by first | decide | omega) LI11.2.2.2.2.2.2.2.2.2.1 LI11.2.2.2.2.2.2.2.2.2.2.2.2.2 LI11.1.start) rfl (Nat.le_of_ble_eq_true rfl) (by omega) (by omega) (hst := rfl) (fun r15 M16 n17 h18 => ?_)
      obtain ⟨T19, J20, v21, rfl, -, -, R23⟩ := h18
      have LI22 := LI11.ref J20 (lx_ok (by decide)) (J20.keep LI11.2.2.1 rfl LI11.2.2.2.2.2.2.2.1) R23 (LI11.2.2.2.2.2.2.2.2.2.2.1.same (sA_c LI11.1 J20 LI11.2.2.1 (by decide +kernel)) (sF_c LI11.1 J20 LI11.2.2.1 (by decide +kernel))) (LI11.2.2.2.2.2.2.2.2.2.2.2.1.same (sA_c LI11.1 J20 LI11.2.2.1 (by decide +kernel)) (sF_c LI11.1 J20 LI11.2.2.1 (by decide +kernel))) (LI11.2.2.2.2.2.2.2.2.2.2.2.2.1.same (sA_c LI11.1 J20 LI11.2.2.1 (by decide +kernel)) (sF_c LI11.1 J20 LI11.2.2.1 (by decide +kernel))) (LI11.2.2.2.2.2.2.2.2.2.2.2.2.2.same (sA_c LI11.1 J20 LI11.2.2.1 (by decide +kernel)) (sF_c LI11.1 J20 LI11.2.2.1 (by decide +kernel)))
      have k13 := lx_Kkeep LI11 J20 (lx_ok (by decide)) k2
      refine mv_pop d_TrustDeskLaw_law_771 rfl ?_
      refine mv_goto (tgt := 1481) d_TrustDeskLaw_law_772 (by decide) ?_
      exact mv_less (by omega) (by omega) (kk _ _ _ _ LI22 k13)
    · refine mv_iconst (v := 1) d_TrustDeskLaw_law_763 (by decide) ?_
      refine mv_goto (tgt := 768) d_TrustDeskLaw_law_764 (by decide) ?_
      obtain ⟨_, b25, -⟩ := LI11.1.1 _ _ LI11.2.2.1
      refine mv_callV (kc' := kc + 1100) (ks' := ks + 14000) (As := [.int (mj_xs g (i.toNatClampNeg + 1)), .int (mj_xs g (i.toNatClampNeg + 2)), .int 1]) (st9 := [.int 1, .int (mj_xs g (i.toNatClampNeg + 2)), .int (mj_xs g (i.toNatClampNeg + 1)), .ref 99]) d_TrustDeskLaw_law_768 lV_TrustDeskLaw_85 b25 rfl (tc_TrustDeskModel_vote_x (d := d + 26) (x9 := 0) (o0 := 99) (x1 := (mj_xs g (i.toNatClampNeg + 1))) (x2 := (mj_xs g (i.toNatClampNeg + 2))) (x3 := 1) LI11.2.2.1 (by first | decide | omega) LI11.2.2.2.2.2.2.2.2.2.1 LI11.2.2.2.2.2.2.2.2.2.2.2.2.2 LI11.1.start) rfl (Nat.le_of_ble_eq_true rfl) (by omega) (by omega) (hst := rfl) (fun r26 M27 n28 h29 => ?_)
      obtain ⟨T30, J31, v32, rfl, -, -, R34⟩ := h29
      have LI33 := LI11.ref J31 (lx_ok (by decide)) (J31.keep LI11.2.2.1 rfl LI11.2.2.2.2.2.2.2.1) R34 (LI11.2.2.2.2.2.2.2.2.2.2.1.same (sA_c LI11.1 J31 LI11.2.2.1 (by decide +kernel)) (sF_c LI11.1 J31 LI11.2.2.1 (by decide +kernel))) (LI11.2.2.2.2.2.2.2.2.2.2.2.1.same (sA_c LI11.1 J31 LI11.2.2.1 (by decide +kernel)) (sF_c LI11.1 J31 LI11.2.2.1 (by decide +kernel))) (LI11.2.2.2.2.2.2.2.2.2.2.2.2.1.same (sA_c LI11.1 J31 LI11.2.2.1 (by decide +kernel)) (sF_c LI11.1 J31 LI11.2.2.1 (by decide +kernel))) (LI11.2.2.2.2.2.2.2.2.2.2.2.2.2.same (sA_c LI11.1 J31 LI11.2.2.1 (by decide +kernel)) (sF_c LI11.1 J31 LI11.2.2.1 (by decide +kernel)))
      have k24 := lx_Kkeep LI11 J31 (lx_ok (by decide)) k2
      refine mv_pop d_TrustDeskLaw_law_771 rfl ?_
      refine mv_goto (tgt := 1481) d_TrustDeskLaw_law_772 (by decide) ?_
      exact mv_less (by omega) (by omega) (kk _ _ _ _ LI33 k24)
  · refine mv_iconst (v := 1) d_TrustDeskLaw_law_732 (by decide) ?_
    refine mv_goto (tgt := 737) d_TrustDeskLaw_law_733 (by decide) ?_
    obtain ⟨_, b36, -⟩ := LI.1.1 _ _ LI.2.1
    refine mv_callV (kc' := kc + 1100) (ks' := ks + 14000) (As := [.int (mj_xs g (i.toNatClampNeg + 1)), .int (mj_xs g (i.toNatClampNeg + 2)), .int 1]) (st9 := [.int 1, .int (mj_xs g (i.toNatClampNeg + 2)), .int (mj_xs g (i.toNatClampNeg + 1)), .ref 64]) d_TrustDeskLaw_law_737 lV_TrustDeskLaw_81 b36 rfl (tc_TrustDesk_vote (d := d + 22) (x9 := 0) (o0 := 64) (x1 := (mj_xs g (i.toNatClampNeg + 1))) (x2 := (mj_xs g (i.toNatClampNeg + 2))) (x3 := 1) LI.2.1 LI.1.start) rfl (Nat.le_of_ble_eq_true rfl) (by omega) (by omega) (hst := rfl) (fun r37 M38 n39 h40 => ?_)
    obtain ⟨T41, J42, v43, rfl, -, -⟩ := h40
    have LI44 := LI.desk J42 (lx_ok (by decide))
    have k35 := lx_Kkeep LI J42 (lx_ok (by decide)) k0
    refine mv_pop d_TrustDeskLaw_law_740 rfl ?_
    refine mv_aload_n d_TrustDeskLaw_law_741 rfl rfl ?_
    refine lx_ld (k := 1) (c := 1) h0 hi hL (by decide) (by decide) d_TrustDeskLaw_law_742 d_TrustDeskLaw_law_743 (mv_iconst d_TrustDeskLaw_law_745 (by decide)) d_TrustDeskLaw_law_746 d_TrustDeskLaw_law_747 ?_
    refine lx_ld (k := 2) (c := 2) h0 hi hL (by decide) (by decide) d_TrustDeskLaw_law_748 d_TrustDeskLaw_law_749 (mv_iconst d_TrustDeskLaw_law_751 (by decide)) d_TrustDeskLaw_law_752 d_TrustDeskLaw_law_753 ?_
    refine lx_ld (k := 3) (c := 3) h0 hi hL (by decide) (by decide) d_TrustDeskLaw_law_754 d_TrustDeskLaw_law_755 (mv_iconst d_TrustDeskLaw_law_757 (by decide)) d_TrustDeskLaw_law_758 d_TrustDeskLaw_law_759 ?_
    refine mv_if_eqZ (tgt := 767) (a := (mj_xs g (i.toNatClampNeg + 3)).toInt) d_TrustDeskLaw_law_760 (by decide) rfl (fun b45 => ?_) (fun b45 => ?_)
    · refine mv_iconst (v := 0) d_TrustDeskLaw_law_767 (by decide) ?_
      obtain ⟨_, b47, -⟩ := LI44.1.1 _ _ LI44.2.2.1
      refine mv_callV (kc' := kc + 1100) (ks' := ks + 14000) (As := [.int (mj_xs g (i.toNatClampNeg + 1)), .int (mj_xs g (i.toNatClampNeg + 2)), .int 0]) (st9 := [.int 0, .int (mj_xs g (i.toNatClampNeg + 2)), .int (mj_xs g (i.toNatClampNeg + 1)), .ref 99]) d_TrustDeskLaw_law_768 lV_TrustDeskLaw_85 b47 rfl (tc_TrustDeskModel_vote_x (d := d + 26) (x9 := 0) (o0 := 99) (x1 := (mj_xs g (i.toNatClampNeg + 1))) (x2 := (mj_xs g (i.toNatClampNeg + 2))) (x3 := 0) LI44.2.2.1 (by first | decide | omega) LI44.2.2.2.2.2.2.2.2.2.1 LI44.2.2.2.2.2.2.2.2.2.2.2.2.2 LI44.1.start) rfl (Nat.le_of_ble_eq_true rfl) (by omega) (by omega) (hst := rfl) (fun r48 M49 n50 h51 => ?_)
      obtain ⟨T52, J53, v54, rfl, -, -, R56⟩ := h51
      have LI55 := LI44.ref J53 (lx_ok (by decide)) (J53.keep LI44.2.2.1 rfl LI44.2.2.2.2.2.2.2.1) R56 (LI44.2.2.2.2.2.2.2.2.2.2.1.same (sA_c LI44.1 J53 LI44.2.2.1 (by decide +kernel)) (sF_c LI44.1 J53 LI44.2.2.1 (by decide +kernel))) (LI44.2.2.2.2.2.2.2.2.2.2.2.1.same (sA_c LI44.1 J53 LI44.2.2.1 (by decide +kernel)) (sF_c LI44.1 J53 LI44.2.2.1 (by decide +kernel))) (LI44.2.2.2.2.2.2.2.2.2.2.2.2.1.same (sA_c LI44.1 J53 LI44.2.2.1 (by decide +kernel)) (sF_c LI44.1 J53 LI44.2.2.1 (by decide +kernel))) (LI44.2.2.2.2.2.2.2.2.2.2.2.2.2.same (sA_c LI44.1 J53 LI44.2.2.1 (by decide +kernel)) (sF_c LI44.1 J53 LI44.2.2.1 (by decide +kernel)))
      have k46 := lx_Kkeep LI44 J53 (lx_ok (by decide)) k35
      refine mv_pop d_TrustDeskLaw_law_771 rfl ?_
      refine mv_goto (tgt := 1481) d_TrustDeskLaw_law_772 (by decide) ?_
      exact mv_less (by omega) (by omega) (kk _ _ _ _ LI55 k46)
    · refine mv_iconst (v := 1) d_TrustDeskLaw_law_763 (by decide) ?_
      refine mv_goto (tgt := 768) d_TrustDeskLaw_law_764 (by decide) ?_
      obtain ⟨_, b58, -⟩ := LI44.1.1 _ _ LI44.2.2.1
      refine mv_callV (kc' := kc + 1100) (ks' := ks + 14000) (As := [.int (mj_xs g (i.toNatClampNeg + 1)), .int (mj_xs g (i.toNatClampNeg + 2)), .int 1]) (st9 := [.int 1, .int (mj_xs g (i.toNatClampNeg + 2)), .int (mj_xs g (i.toNatClampNeg + 1)), .ref 99]) d_TrustDeskLaw_law_768 lV_TrustDeskLaw_85 b58 rfl (tc_TrustDeskModel_vote_x (d := d + 26) (x9 := 0) (o0 := 99) (x1 := (mj_xs g (i.toNatClampNeg + 1))) (x2 := (mj_xs g (i.toNatClampNeg + 2))) (x3 := 1) LI44.2.2.1 (by first | decide | omega) LI44.2.2.2.2.2.2.2.2.2.1 LI44.2.2.2.2.2.2.2.2.2.2.2.2.2 LI44.1.start) rfl (Nat.le_of_ble_eq_true rfl) (by omega) (by omega) (hst := rfl) (fun r59 M60 n61 h62 => ?_)
      obtain ⟨T63, J64, v65, rfl, -, -, R67⟩ := h62
      have LI66 := LI44.ref J64 (lx_ok (by decide)) (J64.keep LI44.2.2.1 rfl LI44.2.2.2.2.2.2.2.1) R67 (LI44.2.2.2.2.2.2.2.2.2.2.1.same (sA_c LI44.1 J64 LI44.2.2.1 (by decide +kernel)) (sF_c LI44.1 J64 LI44.2.2.1 (by decide +kernel))) (LI44.2.2.2.2.2.2.2.2.2.2.2.1.same (sA_c LI44.1 J64 LI44.2.2.1 (by decide +kernel)) (sF_c LI44.1 J64 LI44.2.2.1 (by decide +kernel))) (LI44.2.2.2.2.2.2.2.2.2.2.2.2.1.same (sA_c LI44.1 J64 LI44.2.2.1 (by decide +kernel)) (sF_c LI44.1 J64 LI44.2.2.1 (by decide +kernel))) (LI44.2.2.2.2.2.2.2.2.2.2.2.2.2.same (sA_c LI44.1 J64 LI44.2.2.1 (by decide +kernel)) (sF_c LI44.1 J64 LI44.2.2.1 (by decide +kernel)))
      have k57 := lx_Kkeep LI44 J64 (lx_ok (by decide)) k35
      refine mv_pop d_TrustDeskLaw_law_771 rfl ?_
      refine mv_goto (tgt := 1481) d_TrustDeskLaw_law_772 (by decide) ?_
      exact mv_less (by omega) (by omega) (kk _ _ _ _ LI66 k57)
theorem d_TrustDeskLaw_law_775 : decode kY_TrustDeskLaw_law.2.1 775 = .ok (.aload_n 1, 1) := by decide +kernel
theorem d_TrustDeskLaw_law_776 : decode kY_TrustDeskLaw_law.2.1 776 = .ok (.aload_n 0, 1) := by decide +kernel
theorem d_TrustDeskLaw_law_777 : decode kY_TrustDeskLaw_law.2.1 777 = .ok (.iload 4, 2) := by decide +kernel
theorem d_TrustDeskLaw_law_779 : decode kY_TrustDeskLaw_law.2.1 779 = .ok (.iconst 1, 1) := by decide +kernel
theorem d_TrustDeskLaw_law_780 : decode kY_TrustDeskLaw_law.2.1 780 = .ok (.iadd, 1) := by decide +kernel
theorem d_TrustDeskLaw_law_781 : decode kY_TrustDeskLaw_law.2.1 781 = .ok (.iaload, 1) := by decide +kernel
theorem d_TrustDeskLaw_law_782 : decode kY_TrustDeskLaw_law.2.1 782 = .ok (.invokevirtual 86, 3) := by decide +kernel
theorem lV_TrustDeskLaw_86 : mj_lV "TrustDeskLaw" 86 kY_TrustDesk_settle 1 := ⟨⟨(mj_in1 (List.mem_of_getElem? (i := 1049) (by decide +kernel)) rfl), (mj_in1 (List.mem_of_getElem? (i := 1) (by decide +kernel)) rfl), (mj_in1 (List.mem_of_getElem? (i := 1052) (by decide +kernel)) rfl), by decide, rfl, by decide⟩, (mj_in1 (List.mem_of_getElem? (i := 1050) (by decide +kernel)) rfl), (mj_in1 (List.mem_of_getElem? (i := 1051) (by decide +kernel)) rfl)⟩
theorem d_TrustDeskLaw_law_785 : decode kY_TrustDeskLaw_law.2.1 785 = .ok (.pop, 1) := by decide +kernel
theorem d_TrustDeskLaw_law_786 : decode kY_TrustDeskLaw_law.2.1 786 = .ok (.aload_n 2, 1) := by decide +kernel
theorem d_TrustDeskLaw_law_787 : decode kY_TrustDeskLaw_law.2.1 787 = .ok (.aload_n 0, 1) := by decide +kernel
theorem d_TrustDeskLaw_law_788 : decode kY_TrustDeskLaw_law.2.1 788 = .ok (.iload 4, 2) := by decide +kernel
theorem d_TrustDeskLaw_law_790 : decode kY_TrustDeskLaw_law.2.1 790 = .ok (.iconst 1, 1) := by decide +kernel
theorem d_TrustDeskLaw_law_791 : decode kY_TrustDeskLaw_law.2.1 791 = .ok (.iadd, 1) := by decide +kernel
theorem d_TrustDeskLaw_law_792 : decode kY_TrustDeskLaw_law.2.1 792 = .ok (.iaload, 1) := by decide +kernel
theorem d_TrustDeskLaw_law_793 : decode kY_TrustDeskLaw_law.2.1 793 = .ok (.invokevirtual 89, 3) := by decide +kernel
theorem lV_TrustDeskLaw_89 : mj_lV "TrustDeskLaw" 89 kY_TrustDeskModel_settle 1 := ⟨⟨(mj_in1 (List.mem_of_getElem? (i := 1945) (by decide +kernel)) rfl), (mj_in1 (List.mem_of_getElem? (i := 10) (by decide +kernel)) rfl), (mj_in1 (List.mem_of_getElem? (i := 1948) (by decide +kernel)) rfl), by decide, rfl, by decide⟩, (mj_in1 (List.mem_of_getElem? (i := 1946) (by decide +kernel)) rfl), (mj_in1 (List.mem_of_getElem? (i := 1947) (by decide +kernel)) rfl)⟩
theorem d_TrustDeskLaw_law_796 : decode kY_TrustDeskLaw_law.2.1 796 = .ok (.pop, 1) := by decide +kernel
theorem d_TrustDeskLaw_law_797 : decode kY_TrustDeskLaw_law.2.1 797 = .ok (.goto 684, 3) := by decide +kernel
set_option maxHeartbeats 4000000 in
theorem lx_case_15 {g : mj_G} {l : Launch} {d n Lf kc ks : Nat} {T : tm_H} {M : mj_M} {i t : Int32} (hlt : l.stackTraces = false) (h0 : 0 ≤ i.toInt) (hi : i.toInt + 6 ≤ (mj_L g : Int)) (hL : mj_L g ≤ 3072) (LI : lx_I T M n Lf t t) (k0 : lx_K T M n t) (kk : ∀ (T1 : tm_H) (M1 : mj_M) (n1 : Nat) (t1 : Int32), lx_I T1 M1 n1 Lf t1 t1 → lx_K T1 M1 n1 t1 → mj_V g l kY_TrustDeskLaw_law (d + 28) 1481 (lx_lv i) [] M1 n1 kc ks lx_Q) : mj_V g l kY_TrustDeskLaw_law (d + 28) 775 (lx_lv i) [] M n (kc + 1100) (ks + 14000) lx_Q := by
  refine mv_aload_n d_TrustDeskLaw_law_775 rfl rfl ?_
  refine lx_ld (k := 1) (c := 1) h0 hi hL (by decide) (by decide) d_TrustDeskLaw_law_776 d_TrustDeskLaw_law_777 (mv_iconst d_TrustDeskLaw_law_779 (by decide)) d_TrustDeskLaw_law_780 d_TrustDeskLaw_law_781 ?_
  obtain ⟨_, b2, -⟩ := LI.1.1 _ _ LI.2.1
  refine mv_callV (kc' := kc + 954) (ks' := ks + 2466) (As := [.int (mj_xs g (i.toNatClampNeg + 1))]) (st9 := [.int (mj_xs g (i.toNatClampNeg + 1)), .ref 64]) d_TrustDeskLaw_law_782 lV_TrustDeskLaw_86 b2 rfl (tc_TrustDesk_settle_x (d := d + 17) (x9 := 0) (o0 := 64) (x1 := (mj_xs g (i.toNatClampNeg + 1))) LI.2.1 LI.2.2.2.2.1 LI.2.2.2.2.2.1 (lx_D.D LI.1 LI.2.2.2.2.1 LI.2.2.2.2.2.2.2.2.1).1 (lx_D.D LI.1 LI.2.2.2.2.1 LI.2.2.2.2.2.2.2.2.1).2 LI.1.start) rfl (Nat.le_of_ble_eq_true rfl) (by omega) (by omega) (hst := rfl) (fun r3 M4 n5 h6 => ?_)
  obtain ⟨T7, J8, v9, rfl, JR⟩ := h6
  have LI10 := LI.desk1 J8 (lx_ok (by decide)) (lx_D.settle LI.1 LI.2.2.2.2.1 J8 rfl rfl rfl JR LI.2.2.2.2.2.2.2.2.1) (J8.keep LI.2.1 rfl LI.2.2.2.2.2.2.1)
  have k1 := lx_Kkeep LI J8 (lx_ok (by decide)) k0
  refine mv_pop d_TrustDeskLaw_law_785 rfl ?_
  refine mv_aload_n d_TrustDeskLaw_law_786 rfl rfl ?_
  refine lx_ld (k := 1) (c := 1) h0 hi hL (by decide) (by decide) d_TrustDeskLaw_law_787 d_TrustDeskLaw_law_788 (mv_iconst d_TrustDeskLaw_law_790 (by decide)) d_TrustDeskLaw_law_791 d_TrustDeskLaw_law_792 ?_
  obtain ⟨_, b12, -⟩ := LI10.1.1 _ _ LI10.2.2.1
  refine mv_callV (kc' := kc + 954) (ks' := ks + 2466) (As := [.int (mj_xs g (i.toNatClampNeg + 1))]) (st9 := [.int (mj_xs g (i.toNatClampNeg + 1)), .ref 99]) d_TrustDeskLaw_law_793 lV_TrustDeskLaw_89 b12 rfl (tc_TrustDeskModel_settle_x (d := d + 22) (x9 := 0) (o0 := 99) (x1 := (mj_xs g (i.toNatClampNeg + 1))) LI10.2.2.1 LI10.2.2.2.2.2.2.2.2.2.1 LI10.2.2.2.2.2.2.2.2.2.2.1 LI10.2.2.2.2.2.2.2.2.2.2.2.1 LI10.2.2.2.2.2.2.2.2.2.2.2.2.1 LI10.2.2.2.2.2.2.2.2.2.2.2.2.2 LI10.1.start) rfl (Nat.le_of_ble_eq_true rfl) (by omega) (by omega) (hst := rfl) (fun r13 M14 n15 h16 => ?_)
  obtain ⟨T17, J18, v19, rfl, R25, f21, f22, f23, f24⟩ := h16
  have LI20 := LI10.ref J18 (lx_ok (by decide)) (J18.keep LI10.2.2.1 rfl LI10.2.2.2.2.2.2.2.1) R25 f21 f22 f23 f24
  have k11 := lx_Kkeep LI10 J18 (lx_ok (by decide)) k1
  refine mv_pop d_TrustDeskLaw_law_796 rfl ?_
  refine mv_goto (tgt := 1481) d_TrustDeskLaw_law_797 (by decide) ?_
  exact mv_less (by omega) (by omega) (kk _ _ _ _ LI20 k11)
theorem d_TrustDeskLaw_law_800 : decode kY_TrustDeskLaw_law.2.1 800 = .ok (.aload_n 1, 1) := by decide +kernel
theorem d_TrustDeskLaw_law_801 : decode kY_TrustDeskLaw_law.2.1 801 = .ok (.aload_n 0, 1) := by decide +kernel
theorem d_TrustDeskLaw_law_802 : decode kY_TrustDeskLaw_law.2.1 802 = .ok (.iload 4, 2) := by decide +kernel
theorem d_TrustDeskLaw_law_804 : decode kY_TrustDeskLaw_law.2.1 804 = .ok (.iconst 1, 1) := by decide +kernel
theorem d_TrustDeskLaw_law_805 : decode kY_TrustDeskLaw_law.2.1 805 = .ok (.iadd, 1) := by decide +kernel
theorem d_TrustDeskLaw_law_806 : decode kY_TrustDeskLaw_law.2.1 806 = .ok (.iaload, 1) := by decide +kernel
theorem d_TrustDeskLaw_law_807 : decode kY_TrustDeskLaw_law.2.1 807 = .ok (.aload_n 0, 1) := by decide +kernel
theorem d_TrustDeskLaw_law_808 : decode kY_TrustDeskLaw_law.2.1 808 = .ok (.iload 4, 2) := by decide +kernel
theorem d_TrustDeskLaw_law_810 : decode kY_TrustDeskLaw_law.2.1 810 = .ok (.iconst 2, 1) := by decide +kernel
theorem d_TrustDeskLaw_law_811 : decode kY_TrustDeskLaw_law.2.1 811 = .ok (.iadd, 1) := by decide +kernel
theorem d_TrustDeskLaw_law_812 : decode kY_TrustDeskLaw_law.2.1 812 = .ok (.iaload, 1) := by decide +kernel
theorem d_TrustDeskLaw_law_813 : decode kY_TrustDeskLaw_law.2.1 813 = .ok (.invokevirtual 90, 3) := by decide +kernel
theorem lV_TrustDeskLaw_90 : mj_lV "TrustDeskLaw" 90 kY_TrustDesk_scheme 2 := ⟨⟨(mj_in1 (List.mem_of_getElem? (i := 1166) (by decide +kernel)) rfl), (mj_in1 (List.mem_of_getElem? (i := 1) (by decide +kernel)) rfl), (mj_in1 (List.mem_of_getElem? (i := 1169) (by decide +kernel)) rfl), by decide, rfl, by decide⟩, (mj_in1 (List.mem_of_getElem? (i := 1167) (by decide +kernel)) rfl), (mj_in1 (List.mem_of_getElem? (i := 1168) (by decide +kernel)) rfl)⟩
theorem d_TrustDeskLaw_law_816 : decode kY_TrustDeskLaw_law.2.1 816 = .ok (.pop, 1) := by decide +kernel
theorem d_TrustDeskLaw_law_817 : decode kY_TrustDeskLaw_law.2.1 817 = .ok (.aload_n 2, 1) := by decide +kernel
theorem d_TrustDeskLaw_law_818 : decode kY_TrustDeskLaw_law.2.1 818 = .ok (.aload_n 0, 1) := by decide +kernel
theorem d_TrustDeskLaw_law_819 : decode kY_TrustDeskLaw_law.2.1 819 = .ok (.iload 4, 2) := by decide +kernel
theorem d_TrustDeskLaw_law_821 : decode kY_TrustDeskLaw_law.2.1 821 = .ok (.iconst 1, 1) := by decide +kernel
theorem d_TrustDeskLaw_law_822 : decode kY_TrustDeskLaw_law.2.1 822 = .ok (.iadd, 1) := by decide +kernel
theorem d_TrustDeskLaw_law_823 : decode kY_TrustDeskLaw_law.2.1 823 = .ok (.iaload, 1) := by decide +kernel
theorem d_TrustDeskLaw_law_824 : decode kY_TrustDeskLaw_law.2.1 824 = .ok (.aload_n 0, 1) := by decide +kernel
theorem d_TrustDeskLaw_law_825 : decode kY_TrustDeskLaw_law.2.1 825 = .ok (.iload 4, 2) := by decide +kernel
theorem d_TrustDeskLaw_law_827 : decode kY_TrustDeskLaw_law.2.1 827 = .ok (.iconst 2, 1) := by decide +kernel
theorem d_TrustDeskLaw_law_828 : decode kY_TrustDeskLaw_law.2.1 828 = .ok (.iadd, 1) := by decide +kernel
theorem d_TrustDeskLaw_law_829 : decode kY_TrustDeskLaw_law.2.1 829 = .ok (.iaload, 1) := by decide +kernel
theorem d_TrustDeskLaw_law_830 : decode kY_TrustDeskLaw_law.2.1 830 = .ok (.invokevirtual 93, 3) := by decide +kernel
theorem lV_TrustDeskLaw_93 : mj_lV "TrustDeskLaw" 93 kY_TrustDeskModel_scheme 2 := ⟨⟨(mj_in1 (List.mem_of_getElem? (i := 1994) (by decide +kernel)) rfl), (mj_in1 (List.mem_of_getElem? (i := 10) (by decide +kernel)) rfl), (mj_in1 (List.mem_of_getElem? (i := 1997) (by decide +kernel)) rfl), by decide, rfl, by decide⟩, (mj_in1 (List.mem_of_getElem? (i := 1995) (by decide +kernel)) rfl), (mj_in1 (List.mem_of_getElem? (i := 1996) (by decide +kernel)) rfl)⟩
theorem d_TrustDeskLaw_law_833 : decode kY_TrustDeskLaw_law.2.1 833 = .ok (.pop, 1) := by decide +kernel
theorem d_TrustDeskLaw_law_834 : decode kY_TrustDeskLaw_law.2.1 834 = .ok (.goto 647, 3) := by decide +kernel
set_option maxHeartbeats 4000000 in
theorem lx_case_16 {g : mj_G} {l : Launch} {d n Lf kc ks : Nat} {T : tm_H} {M : mj_M} {i t : Int32} (hlt : l.stackTraces = false) (h0 : 0 ≤ i.toInt) (hi : i.toInt + 6 ≤ (mj_L g : Int)) (hL : mj_L g ≤ 3072) (LI : lx_I T M n Lf t t) (k0 : lx_K T M n t) (kk : ∀ (T1 : tm_H) (M1 : mj_M) (n1 : Nat) (t1 : Int32), lx_I T1 M1 n1 Lf t1 t1 → lx_K T1 M1 n1 t1 → mj_V g l kY_TrustDeskLaw_law (d + 28) 1481 (lx_lv i) [] M1 n1 kc ks lx_Q) : mj_V g l kY_TrustDeskLaw_law (d + 28) 800 (lx_lv i) [] M n (kc + 1100) (ks + 14000) lx_Q := by
  refine mv_aload_n d_TrustDeskLaw_law_800 rfl rfl ?_
  refine lx_ld (k := 1) (c := 1) h0 hi hL (by decide) (by decide) d_TrustDeskLaw_law_801 d_TrustDeskLaw_law_802 (mv_iconst d_TrustDeskLaw_law_804 (by decide)) d_TrustDeskLaw_law_805 d_TrustDeskLaw_law_806 ?_
  refine lx_ld (k := 2) (c := 2) h0 hi hL (by decide) (by decide) d_TrustDeskLaw_law_807 d_TrustDeskLaw_law_808 (mv_iconst d_TrustDeskLaw_law_810 (by decide)) d_TrustDeskLaw_law_811 d_TrustDeskLaw_law_812 ?_
  obtain ⟨_, b2, -⟩ := LI.1.1 _ _ LI.2.1
  refine mv_callV (kc' := kc + 1100) (ks' := ks + 14000) (As := [.int (mj_xs g (i.toNatClampNeg + 1)), .int (mj_xs g (i.toNatClampNeg + 2))]) (st9 := [.int (mj_xs g (i.toNatClampNeg + 2)), .int (mj_xs g (i.toNatClampNeg + 1)), .ref 64]) d_TrustDeskLaw_law_813 lV_TrustDeskLaw_90 b2 rfl (tc_TrustDesk_scheme (d := d + 23) (x9 := 0) (o0 := 64) (x1 := (mj_xs g (i.toNatClampNeg + 1))) (x2 := (mj_xs g (i.toNatClampNeg + 2))) LI.2.1 LI.1.start) rfl (Nat.le_of_ble_eq_true rfl) (by omega) (by omega) (hst := rfl) (fun r3 M4 n5 h6 => ?_)
  obtain ⟨T7, J8, v9, rfl⟩ := h6
  have LI10 := LI.desk J8 (lx_ok (by decide))
  have k1 := lx_Kkeep LI J8 (lx_ok (by decide)) k0
  refine mv_pop d_TrustDeskLaw_law_816 rfl ?_
  refine mv_aload_n d_TrustDeskLaw_law_817 rfl rfl ?_
  refine lx_ld (k := 1) (c := 1) h0 hi hL (by decide) (by decide) d_TrustDeskLaw_law_818 d_TrustDeskLaw_law_819 (mv_iconst d_TrustDeskLaw_law_821 (by decide)) d_TrustDeskLaw_law_822 d_TrustDeskLaw_law_823 ?_
  refine lx_ld (k := 2) (c := 2) h0 hi hL (by decide) (by decide) d_TrustDeskLaw_law_824 d_TrustDeskLaw_law_825 (mv_iconst d_TrustDeskLaw_law_827 (by decide)) d_TrustDeskLaw_law_828 d_TrustDeskLaw_law_829 ?_
  obtain ⟨_, b12, -⟩ := LI10.1.1 _ _ LI10.2.2.1
  refine mv_callV (kc' := kc + 1100) (ks' := ks + 14000) (As := [.int (mj_xs g (i.toNatClampNeg + 1)), .int (mj_xs g (i.toNatClampNeg + 2))]) (st9 := [.int (mj_xs g (i.toNatClampNeg + 2)), .int (mj_xs g (i.toNatClampNeg + 1)), .ref 99]) d_TrustDeskLaw_law_830 lV_TrustDeskLaw_93 b12 rfl (tc_TrustDeskModel_scheme_x (d := d + 26) (x9 := 0) (o0 := 99) (x1 := (mj_xs g (i.toNatClampNeg + 1))) (x2 := (mj_xs g (i.toNatClampNeg + 2))) LI10.2.2.1 LI10.2.2.2.2.2.2.2.2.2.1 LI10.1.start) rfl (Nat.le_of_ble_eq_true rfl) (by omega) (by omega) (hst := rfl) (fun r13 M14 n15 h16 => ?_)
  obtain ⟨T17, J18, v19, rfl, R21⟩ := h16
  have LI20 := LI10.ref J18 (lx_ok (by decide)) (J18.keep LI10.2.2.1 rfl LI10.2.2.2.2.2.2.2.1) R21 (LI10.2.2.2.2.2.2.2.2.2.2.1.same (sA_c LI10.1 J18 LI10.2.2.1 (by decide +kernel)) (sF_c LI10.1 J18 LI10.2.2.1 (by decide +kernel))) (LI10.2.2.2.2.2.2.2.2.2.2.2.1.same (sA_c LI10.1 J18 LI10.2.2.1 (by decide +kernel)) (sF_c LI10.1 J18 LI10.2.2.1 (by decide +kernel))) (LI10.2.2.2.2.2.2.2.2.2.2.2.2.1.same (sA_c LI10.1 J18 LI10.2.2.1 (by decide +kernel)) (sF_c LI10.1 J18 LI10.2.2.1 (by decide +kernel))) (LI10.2.2.2.2.2.2.2.2.2.2.2.2.2.same (sA_c LI10.1 J18 LI10.2.2.1 (by decide +kernel)) (sF_c LI10.1 J18 LI10.2.2.1 (by decide +kernel)))
  have k11 := lx_Kkeep LI10 J18 (lx_ok (by decide)) k1
  refine mv_pop d_TrustDeskLaw_law_833 rfl ?_
  refine mv_goto (tgt := 1481) d_TrustDeskLaw_law_834 (by decide) ?_
  exact mv_less (by omega) (by omega) (kk _ _ _ _ LI20 k11)
