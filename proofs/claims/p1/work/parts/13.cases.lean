abbrev kY_TrustDeskLaw_law : mj_Y := (x, code, 7, some .boolean)
theorem d_TrustDeskLaw_law_192 : decode kY_TrustDeskLaw_law.2.1 192 = .ok (.aload_n 1, 1) := by decide +kernel
theorem d_TrustDeskLaw_law_193 : decode kY_TrustDeskLaw_law.2.1 193 = .ok (.aload_n 0, 1) := by decide +kernel
theorem d_TrustDeskLaw_law_194 : decode kY_TrustDeskLaw_law.2.1 194 = .ok (.iload 4, 2) := by decide +kernel
theorem d_TrustDeskLaw_law_196 : decode kY_TrustDeskLaw_law.2.1 196 = .ok (.iconst 1, 1) := by decide +kernel
theorem d_TrustDeskLaw_law_197 : decode kY_TrustDeskLaw_law.2.1 197 = .ok (.iadd, 1) := by decide +kernel
theorem d_TrustDeskLaw_law_198 : decode kY_TrustDeskLaw_law.2.1 198 = .ok (.iaload, 1) := by decide +kernel
theorem d_TrustDeskLaw_law_199 : decode kY_TrustDeskLaw_law.2.1 199 = .ok (.aload_n 0, 1) := by decide +kernel
theorem d_TrustDeskLaw_law_200 : decode kY_TrustDeskLaw_law.2.1 200 = .ok (.iload 4, 2) := by decide +kernel
theorem d_TrustDeskLaw_law_202 : decode kY_TrustDeskLaw_law.2.1 202 = .ok (.iconst 2, 1) := by decide +kernel
theorem d_TrustDeskLaw_law_203 : decode kY_TrustDeskLaw_law.2.1 203 = .ok (.iadd, 1) := by decide +kernel
theorem d_TrustDeskLaw_law_204 : decode kY_TrustDeskLaw_law.2.1 204 = .ok (.iaload, 1) := by decide +kernel
theorem d_TrustDeskLaw_law_205 : decode kY_TrustDeskLaw_law.2.1 205 = .ok (.aload_n 0, 1) := by decide +kernel
theorem d_TrustDeskLaw_law_206 : decode kY_TrustDeskLaw_law.2.1 206 = .ok (.iload 4, 2) := by decide +kernel
theorem d_TrustDeskLaw_law_208 : decode kY_TrustDeskLaw_law.2.1 208 = .ok (.iconst 3, 1) := by decide +kernel
theorem d_TrustDeskLaw_law_209 : decode kY_TrustDeskLaw_law.2.1 209 = .ok (.iadd, 1) := by decide +kernel
theorem d_TrustDeskLaw_law_210 : decode kY_TrustDeskLaw_law.2.1 210 = .ok (.iaload, 1) := by decide +kernel
theorem d_TrustDeskLaw_law_211 : decode kY_TrustDeskLaw_law.2.1 211 = .ok (.invokevirtual 19, 3) := by decide +kernel
theorem lV_TrustDeskLaw_19 : mj_lV "TrustDeskLaw" 19 kY_TrustDesk_fact 3 := ⟨⟨(mj_in1 (List.mem_of_getElem? (i := 307) (by decide +kernel)) rfl), (mj_in1 (List.mem_of_getElem? (i := 1) (by decide +kernel)) rfl), (mj_in1 (List.mem_of_getElem? (i := 310) (by decide +kernel)) rfl), by decide, rfl, by decide⟩, (mj_in1 (List.mem_of_getElem? (i := 308) (by decide +kernel)) rfl), (mj_in1 (List.mem_of_getElem? (i := 309) (by decide +kernel)) rfl)⟩
theorem d_TrustDeskLaw_law_214 : decode kY_TrustDeskLaw_law.2.1 214 = .ok (.aload_n 2, 1) := by decide +kernel
theorem d_TrustDeskLaw_law_215 : decode kY_TrustDeskLaw_law.2.1 215 = .ok (.aload_n 0, 1) := by decide +kernel
theorem d_TrustDeskLaw_law_216 : decode kY_TrustDeskLaw_law.2.1 216 = .ok (.iload 4, 2) := by decide +kernel
theorem d_TrustDeskLaw_law_218 : decode kY_TrustDeskLaw_law.2.1 218 = .ok (.iconst 1, 1) := by decide +kernel
theorem d_TrustDeskLaw_law_219 : decode kY_TrustDeskLaw_law.2.1 219 = .ok (.iadd, 1) := by decide +kernel
theorem d_TrustDeskLaw_law_220 : decode kY_TrustDeskLaw_law.2.1 220 = .ok (.iaload, 1) := by decide +kernel
theorem d_TrustDeskLaw_law_221 : decode kY_TrustDeskLaw_law.2.1 221 = .ok (.aload_n 0, 1) := by decide +kernel
theorem d_TrustDeskLaw_law_222 : decode kY_TrustDeskLaw_law.2.1 222 = .ok (.iload 4, 2) := by decide +kernel
theorem d_TrustDeskLaw_law_224 : decode kY_TrustDeskLaw_law.2.1 224 = .ok (.iconst 2, 1) := by decide +kernel
theorem d_TrustDeskLaw_law_225 : decode kY_TrustDeskLaw_law.2.1 225 = .ok (.iadd, 1) := by decide +kernel
theorem d_TrustDeskLaw_law_226 : decode kY_TrustDeskLaw_law.2.1 226 = .ok (.iaload, 1) := by decide +kernel
theorem d_TrustDeskLaw_law_227 : decode kY_TrustDeskLaw_law.2.1 227 = .ok (.aload_n 0, 1) := by decide +kernel
theorem d_TrustDeskLaw_law_228 : decode kY_TrustDeskLaw_law.2.1 228 = .ok (.iload 4, 2) := by decide +kernel
theorem d_TrustDeskLaw_law_230 : decode kY_TrustDeskLaw_law.2.1 230 = .ok (.iconst 3, 1) := by decide +kernel
theorem d_TrustDeskLaw_law_231 : decode kY_TrustDeskLaw_law.2.1 231 = .ok (.iadd, 1) := by decide +kernel
theorem d_TrustDeskLaw_law_232 : decode kY_TrustDeskLaw_law.2.1 232 = .ok (.iaload, 1) := by decide +kernel
theorem d_TrustDeskLaw_law_233 : decode kY_TrustDeskLaw_law.2.1 233 = .ok (.invokevirtual 23, 3) := by decide +kernel
theorem lV_TrustDeskLaw_23 : mj_lV "TrustDeskLaw" 23 kY_TrustDeskModel_fact 3 := ⟨⟨(mj_in1 (List.mem_of_getElem? (i := 1607) (by decide +kernel)) rfl), (mj_in1 (List.mem_of_getElem? (i := 10) (by decide +kernel)) rfl), (mj_in1 (List.mem_of_getElem? (i := 1610) (by decide +kernel)) rfl), by decide, rfl, by decide⟩, (mj_in1 (List.mem_of_getElem? (i := 1608) (by decide +kernel)) rfl), (mj_in1 (List.mem_of_getElem? (i := 1609) (by decide +kernel)) rfl)⟩
theorem d_TrustDeskLaw_law_236 : decode kY_TrustDeskLaw_law.2.1 236 = .ok (.if_icmp .eq 1277, 3) := by decide +kernel
theorem d_TrustDeskLaw_law_1513 : decode kY_TrustDeskLaw_law.2.1 1513 = .ok (.iinc 4 6, 3) := by decide +kernel
theorem d_TrustDeskLaw_law_1516 : decode kY_TrustDeskLaw_law.2.1 1516 = .ok (.goto (-1493), 3) := by decide +kernel
theorem d_TrustDeskLaw_law_23 : decode kY_TrustDeskLaw_law.2.1 23 = .ok (.iload 4, 2) := by decide +kernel
theorem d_TrustDeskLaw_law_25 : decode kY_TrustDeskLaw_law.2.1 25 = .ok (.aload_n 0, 1) := by decide +kernel
theorem d_TrustDeskLaw_law_26 : decode kY_TrustDeskLaw_law.2.1 26 = .ok (.arraylength, 1) := by decide +kernel
theorem d_TrustDeskLaw_law_27 : decode kY_TrustDeskLaw_law.2.1 27 = .ok (.bipush 6, 2) := by decide +kernel
theorem d_TrustDeskLaw_law_29 : decode kY_TrustDeskLaw_law.2.1 29 = .ok (.isub, 1) := by decide +kernel
theorem d_TrustDeskLaw_law_30 : decode kY_TrustDeskLaw_law.2.1 30 = .ok (.if_icmp .gt 1489, 3) := by decide +kernel
theorem d_TrustDeskLaw_law_1519 : decode kY_TrustDeskLaw_law.2.1 1519 = .ok (.iconst 1, 1) := by decide +kernel
theorem d_TrustDeskLaw_law_1520 : decode kY_TrustDeskLaw_law.2.1 1520 = .ok (.ireturn, 1) := by decide +kernel
theorem lw_case_0 {g : mj_G} {l : Launch} {d nx : Nat} {M : mj_M} (h_64 : M 64 = some (.inr (12, [.ref 65, .ref 70, .ref 77, .ref 80, .ref 90, .ref 94, .ref 95, .ref 96, .ref 97, .ref 98, .int 0, .int 0, .int 0]))) (h_65 : M 65 = some (.inr (5, [.ref 66, .ref 67, .ref 68, .ref 69, .int 0]))) (h_66 : M 66 = some (.inl (0, 300, .inl (fun _ => 0)))) (h_67 : M 67 = some (.inl (0, 300, .inl (fun _ => 0)))) (h_68 : M 68 = some (.inl (0, 300, .inl (fun _ => 0)))) (h_69 : M 69 = some (.inl (0, 300, .inl (fun _ => 0)))) (h_99 : M 99 = some (.inr (13, [.int 0, .int 0, .int 0, .ref 100, .ref 101, .ref 102, .ref 103, .ref 104, .ref 105, .ref 106, .ref 107, .ref 108, .ref 109, .ref 110, .int 0, .int 0, .int 0, .int 0, .int 0, .int 0, .int 0, .int (-1), .int 0, .int 0, .int 0, .ref 111, .ref 112, .int 0, .ref 113, .ref 114, .ref 115, .int 0, .int 0, .ref 116, .ref 117, .ref 118, .ref 119, .ref 120, .ref 121, .ref 122, .ref 123, .ref 124, .ref 125, .ref 126, .ref 127, .ref 128, .ref 129, .ref 130, .ref 131, .int 0, .ref 132, .int 0, .ref 133, .int 0, .ref 134, .ref 135, .ref 136, .ref 137, .ref 138, .ref 139, .ref 140, .ref 141, .ref 142, .ref 143, .ref 144, .ref 145, .ref 146, .int 0, .long 0, .int 0, .int 0, .ref 147]))) (h_100 : M 100 = some (.inl (0, 1200, .inl (fun _ => 0)))) (hL : mj_L g = 6) : mj_V g l kY_TrustDeskLaw_law (d + 9) 192 [(4, .int 0), (3, .ref 148), (2, .ref 99), (1, .ref 64), (0, .ref 50)] [] M 149 6 241 (fun r _ _ => r = some (.int 1)) := by
  refine mv_aload_n d_TrustDeskLaw_law_192 rfl rfl ?_
  refine mv_aload_n d_TrustDeskLaw_law_193 rfl rfl ?_
  refine mv_iload d_TrustDeskLaw_law_194 rfl ?_
  refine mv_iconst (v := 1) d_TrustDeskLaw_law_196 (by decide) ?_
  refine mv_iaddv (v := 1) d_TrustDeskLaw_law_197 (by decide) ?_
  refine mv_sld (v := (mj_xs g 1)) d_TrustDeskLaw_law_198 (by rw [hL]; unfold vp_in; decide) rfl ?_
  refine mv_aload_n d_TrustDeskLaw_law_199 rfl rfl ?_
  refine mv_iload d_TrustDeskLaw_law_200 rfl ?_
  refine mv_iconst (v := 2) d_TrustDeskLaw_law_202 (by decide) ?_
  refine mv_iaddv (v := 2) d_TrustDeskLaw_law_203 (by decide) ?_
  refine mv_sld (v := (mj_xs g 2)) d_TrustDeskLaw_law_204 (by rw [hL]; unfold vp_in; decide) rfl ?_
  refine mv_aload_n d_TrustDeskLaw_law_205 rfl rfl ?_
  refine mv_iload d_TrustDeskLaw_law_206 rfl ?_
  refine mv_iconst (v := 3) d_TrustDeskLaw_law_208 (by decide) ?_
  refine mv_iaddv (v := 3) d_TrustDeskLaw_law_209 (by decide) ?_
  refine mv_sld (v := (mj_xs g 3)) d_TrustDeskLaw_law_210 (by rw [hL]; unfold vp_in; decide) rfl ?_
  refine mv_callV (kc' := 6) (ks' := 241) (As := [.int (mj_xs g 1), .int (mj_xs g 2), .int (mj_xs g 3)]) (st9 := [.int (mj_xs g 3), .int (mj_xs g 2), .int (mj_xs g 1), .ref 64]) d_TrustDeskLaw_law_211 lV_TrustDeskLaw_19 h_64 rfl (c_TrustDesk_fact_0 (d := (d + 7)) (x1 := (mj_xs g 1)) (x2 := (mj_xs g 2)) (x3 := (mj_xs g 3)) (h_64 := h_64) (h_65 := h_65) (h_66 := h_66) (h_67 := h_67) (h_68 := h_68) (h_69 := h_69)) rfl (Nat.le_of_ble_eq_true rfl) (Nat.le_of_ble_eq_true rfl) (Nat.le_of_ble_eq_true rfl) (hst := rfl) (fun b1r b1M b1n b1 => ?_)
  obtain ⟨rfl, b1⟩ := b1
  refine mv_aload_n d_TrustDeskLaw_law_214 rfl rfl ?_
  refine mv_aload_n d_TrustDeskLaw_law_215 rfl rfl ?_
  refine mv_iload d_TrustDeskLaw_law_216 rfl ?_
  refine mv_iconst (v := 1) d_TrustDeskLaw_law_218 (by decide) ?_
  refine mv_iaddv (v := 1) d_TrustDeskLaw_law_219 (by decide) ?_
  refine mv_sld (v := (mj_xs g 1)) d_TrustDeskLaw_law_220 (by rw [hL]; unfold vp_in; decide) rfl ?_
  refine mv_aload_n d_TrustDeskLaw_law_221 rfl rfl ?_
  refine mv_iload d_TrustDeskLaw_law_222 rfl ?_
  refine mv_iconst (v := 2) d_TrustDeskLaw_law_224 (by decide) ?_
  refine mv_iaddv (v := 2) d_TrustDeskLaw_law_225 (by decide) ?_
  refine mv_sld (v := (mj_xs g 2)) d_TrustDeskLaw_law_226 (by rw [hL]; unfold vp_in; decide) rfl ?_
  refine mv_aload_n d_TrustDeskLaw_law_227 rfl rfl ?_
  refine mv_iload d_TrustDeskLaw_law_228 rfl ?_
  refine mv_iconst (v := 3) d_TrustDeskLaw_law_230 (by decide) ?_
  refine mv_iaddv (v := 3) d_TrustDeskLaw_law_231 (by decide) ?_
  refine mv_sld (v := (mj_xs g 3)) d_TrustDeskLaw_law_232 (by rw [hL]; unfold vp_in; decide) rfl ?_
  refine mv_callV (kc' := 6) (ks' := 241) (As := [.int (mj_xs g 1), .int (mj_xs g 2), .int (mj_xs g 3)]) (st9 := [.int (mj_xs g 3), .int (mj_xs g 2), .int (mj_xs g 1), .ref 99, .int (e_fact (mj_xs g 1) (mj_xs g 2) (mj_xs g 3))]) d_TrustDeskLaw_law_233 lV_TrustDeskLaw_23 ((b1 99 (by decide) (by decide)).trans h_99) rfl (c_TrustDeskModel_fact_0 (d := (d + 7)) (x1 := (mj_xs g 1)) (x2 := (mj_xs g 2)) (x3 := (mj_xs g 3)) (h_99 := ((b1 99 (by decide) (by decide)).trans h_99)) (h_100 := ((b1 100 (by decide) (by decide)).trans h_100))) rfl (Nat.le_of_ble_eq_true rfl) (Nat.le_of_ble_eq_true rfl) (Nat.le_of_ble_eq_true rfl) (hst := rfl) (fun b2r b2M b2n b2 => ?_)
  obtain ⟨rfl, b2⟩ := b2
  refine mv_icmp_eq_t (tgt := 1513) d_TrustDeskLaw_law_236 (by decide) rfl ?_
  refine mv_iinc (v := 6) (lv' := [(4, .int 6), (3, .ref 148), (2, .ref 99), (1, .ref 64), (0, .ref 50)]) d_TrustDeskLaw_law_1513 rfl (by decide) (by decide) rfl ?_
  refine mv_goto (tgt := 23) d_TrustDeskLaw_law_1516 (by decide) ?_
  refine mv_iload d_TrustDeskLaw_law_23 rfl ?_
  refine mv_aload_n d_TrustDeskLaw_law_25 rfl rfl ?_
  refine mv_slen (v := 6) d_TrustDeskLaw_law_26 (by rw [hL]; rfl) ?_
  refine mv_bipush (v := 6) d_TrustDeskLaw_law_27 (by decide) ?_
  refine mv_isubv (v := 0) d_TrustDeskLaw_law_29 (by decide) ?_
  refine mv_icmp_gt_t (tgt := 1519) d_TrustDeskLaw_law_30 (by decide) (by decide) ?_
  refine mv_iconst (v := 1) d_TrustDeskLaw_law_1519 (by decide) ?_
  exact mv_iret d_TrustDeskLaw_law_1520 rfl (by first | rfl | decide) rfl
theorem d_TrustDeskLaw_law_241 : decode kY_TrustDeskLaw_law.2.1 241 = .ok (.aload_n 1, 1) := by decide +kernel
theorem d_TrustDeskLaw_law_242 : decode kY_TrustDeskLaw_law.2.1 242 = .ok (.aload_n 0, 1) := by decide +kernel
theorem d_TrustDeskLaw_law_243 : decode kY_TrustDeskLaw_law.2.1 243 = .ok (.iload 4, 2) := by decide +kernel
theorem d_TrustDeskLaw_law_245 : decode kY_TrustDeskLaw_law.2.1 245 = .ok (.iconst 1, 1) := by decide +kernel
theorem d_TrustDeskLaw_law_246 : decode kY_TrustDeskLaw_law.2.1 246 = .ok (.iadd, 1) := by decide +kernel
theorem d_TrustDeskLaw_law_247 : decode kY_TrustDeskLaw_law.2.1 247 = .ok (.iaload, 1) := by decide +kernel
theorem d_TrustDeskLaw_law_248 : decode kY_TrustDeskLaw_law.2.1 248 = .ok (.aload_n 0, 1) := by decide +kernel
theorem d_TrustDeskLaw_law_249 : decode kY_TrustDeskLaw_law.2.1 249 = .ok (.iload 4, 2) := by decide +kernel
theorem d_TrustDeskLaw_law_251 : decode kY_TrustDeskLaw_law.2.1 251 = .ok (.iconst 2, 1) := by decide +kernel
theorem d_TrustDeskLaw_law_252 : decode kY_TrustDeskLaw_law.2.1 252 = .ok (.iadd, 1) := by decide +kernel
theorem d_TrustDeskLaw_law_253 : decode kY_TrustDeskLaw_law.2.1 253 = .ok (.iaload, 1) := by decide +kernel
theorem d_TrustDeskLaw_law_254 : decode kY_TrustDeskLaw_law.2.1 254 = .ok (.aload_n 0, 1) := by decide +kernel
theorem d_TrustDeskLaw_law_255 : decode kY_TrustDeskLaw_law.2.1 255 = .ok (.iload 4, 2) := by decide +kernel
theorem d_TrustDeskLaw_law_257 : decode kY_TrustDeskLaw_law.2.1 257 = .ok (.iconst 3, 1) := by decide +kernel
theorem d_TrustDeskLaw_law_258 : decode kY_TrustDeskLaw_law.2.1 258 = .ok (.iadd, 1) := by decide +kernel
theorem d_TrustDeskLaw_law_259 : decode kY_TrustDeskLaw_law.2.1 259 = .ok (.iaload, 1) := by decide +kernel
theorem d_TrustDeskLaw_law_260 : decode kY_TrustDeskLaw_law.2.1 260 = .ok (.invokevirtual 24, 3) := by decide +kernel
theorem lV_TrustDeskLaw_24 : mj_lV "TrustDeskLaw" 24 kY_TrustDesk_factOf 3 := ⟨⟨(mj_in1 (List.mem_of_getElem? (i := 321) (by decide +kernel)) rfl), (mj_in1 (List.mem_of_getElem? (i := 1) (by decide +kernel)) rfl), (mj_in1 (List.mem_of_getElem? (i := 324) (by decide +kernel)) rfl), by decide, rfl, by decide⟩, (mj_in1 (List.mem_of_getElem? (i := 322) (by decide +kernel)) rfl), (mj_in1 (List.mem_of_getElem? (i := 323) (by decide +kernel)) rfl)⟩
theorem d_TrustDeskLaw_law_263 : decode kY_TrustDeskLaw_law.2.1 263 = .ok (.aload_n 2, 1) := by decide +kernel
theorem d_TrustDeskLaw_law_264 : decode kY_TrustDeskLaw_law.2.1 264 = .ok (.aload_n 0, 1) := by decide +kernel
theorem d_TrustDeskLaw_law_265 : decode kY_TrustDeskLaw_law.2.1 265 = .ok (.iload 4, 2) := by decide +kernel
theorem d_TrustDeskLaw_law_267 : decode kY_TrustDeskLaw_law.2.1 267 = .ok (.iconst 1, 1) := by decide +kernel
theorem d_TrustDeskLaw_law_268 : decode kY_TrustDeskLaw_law.2.1 268 = .ok (.iadd, 1) := by decide +kernel
theorem d_TrustDeskLaw_law_269 : decode kY_TrustDeskLaw_law.2.1 269 = .ok (.iaload, 1) := by decide +kernel
theorem d_TrustDeskLaw_law_270 : decode kY_TrustDeskLaw_law.2.1 270 = .ok (.aload_n 0, 1) := by decide +kernel
theorem d_TrustDeskLaw_law_271 : decode kY_TrustDeskLaw_law.2.1 271 = .ok (.iload 4, 2) := by decide +kernel
theorem d_TrustDeskLaw_law_273 : decode kY_TrustDeskLaw_law.2.1 273 = .ok (.iconst 2, 1) := by decide +kernel
theorem d_TrustDeskLaw_law_274 : decode kY_TrustDeskLaw_law.2.1 274 = .ok (.iadd, 1) := by decide +kernel
theorem d_TrustDeskLaw_law_275 : decode kY_TrustDeskLaw_law.2.1 275 = .ok (.iaload, 1) := by decide +kernel
theorem d_TrustDeskLaw_law_276 : decode kY_TrustDeskLaw_law.2.1 276 = .ok (.aload_n 0, 1) := by decide +kernel
theorem d_TrustDeskLaw_law_277 : decode kY_TrustDeskLaw_law.2.1 277 = .ok (.iload 4, 2) := by decide +kernel
theorem d_TrustDeskLaw_law_279 : decode kY_TrustDeskLaw_law.2.1 279 = .ok (.iconst 3, 1) := by decide +kernel
theorem d_TrustDeskLaw_law_280 : decode kY_TrustDeskLaw_law.2.1 280 = .ok (.iadd, 1) := by decide +kernel
theorem d_TrustDeskLaw_law_281 : decode kY_TrustDeskLaw_law.2.1 281 = .ok (.iaload, 1) := by decide +kernel
theorem d_TrustDeskLaw_law_282 : decode kY_TrustDeskLaw_law.2.1 282 = .ok (.invokevirtual 28, 3) := by decide +kernel
theorem lV_TrustDeskLaw_28 : mj_lV "TrustDeskLaw" 28 kY_TrustDeskModel_factOf 3 := ⟨⟨(mj_in1 (List.mem_of_getElem? (i := 1619) (by decide +kernel)) rfl), (mj_in1 (List.mem_of_getElem? (i := 10) (by decide +kernel)) rfl), (mj_in1 (List.mem_of_getElem? (i := 1622) (by decide +kernel)) rfl), by decide, rfl, by decide⟩, (mj_in1 (List.mem_of_getElem? (i := 1620) (by decide +kernel)) rfl), (mj_in1 (List.mem_of_getElem? (i := 1621) (by decide +kernel)) rfl)⟩
theorem d_TrustDeskLaw_law_285 : decode kY_TrustDeskLaw_law.2.1 285 = .ok (.if_icmp .eq 1228, 3) := by decide +kernel
theorem lw_case_1 {g : mj_G} {l : Launch} {d nx : Nat} {M : mj_M} (h_64 : M 64 = some (.inr (12, [.ref 65, .ref 70, .ref 77, .ref 80, .ref 90, .ref 94, .ref 95, .ref 96, .ref 97, .ref 98, .int 0, .int 0, .int 0]))) (h_65 : M 65 = some (.inr (5, [.ref 66, .ref 67, .ref 68, .ref 69, .int 0]))) (h_99 : M 99 = some (.inr (13, [.int 0, .int 0, .int 0, .ref 100, .ref 101, .ref 102, .ref 103, .ref 104, .ref 105, .ref 106, .ref 107, .ref 108, .ref 109, .ref 110, .int 0, .int 0, .int 0, .int 0, .int 0, .int 0, .int 0, .int (-1), .int 0, .int 0, .int 0, .ref 111, .ref 112, .int 0, .ref 113, .ref 114, .ref 115, .int 0, .int 0, .ref 116, .ref 117, .ref 118, .ref 119, .ref 120, .ref 121, .ref 122, .ref 123, .ref 124, .ref 125, .ref 126, .ref 127, .ref 128, .ref 129, .ref 130, .ref 131, .int 0, .ref 132, .int 0, .ref 133, .int 0, .ref 134, .ref 135, .ref 136, .ref 137, .ref 138, .ref 139, .ref 140, .ref 141, .ref 142, .ref 143, .ref 144, .ref 145, .ref 146, .int 0, .long 0, .int 0, .int 0, .ref 147]))) (hL : mj_L g = 6) : mj_V g l kY_TrustDeskLaw_law (d + 9) 241 [(4, .int 0), (3, .ref 148), (2, .ref 99), (1, .ref 64), (0, .ref 50)] [] M 149 6 241 (fun r _ _ => r = some (.int 1)) := by
  refine mv_aload_n d_TrustDeskLaw_law_241 rfl rfl ?_
  refine mv_aload_n d_TrustDeskLaw_law_242 rfl rfl ?_
  refine mv_iload d_TrustDeskLaw_law_243 rfl ?_
  refine mv_iconst (v := 1) d_TrustDeskLaw_law_245 (by decide) ?_
  refine mv_iaddv (v := 1) d_TrustDeskLaw_law_246 (by decide) ?_
  refine mv_sld (v := (mj_xs g 1)) d_TrustDeskLaw_law_247 (by rw [hL]; unfold vp_in; decide) rfl ?_
  refine mv_aload_n d_TrustDeskLaw_law_248 rfl rfl ?_
  refine mv_iload d_TrustDeskLaw_law_249 rfl ?_
  refine mv_iconst (v := 2) d_TrustDeskLaw_law_251 (by decide) ?_
  refine mv_iaddv (v := 2) d_TrustDeskLaw_law_252 (by decide) ?_
  refine mv_sld (v := (mj_xs g 2)) d_TrustDeskLaw_law_253 (by rw [hL]; unfold vp_in; decide) rfl ?_
  refine mv_aload_n d_TrustDeskLaw_law_254 rfl rfl ?_
  refine mv_iload d_TrustDeskLaw_law_255 rfl ?_
  refine mv_iconst (v := 3) d_TrustDeskLaw_law_257 (by decide) ?_
  refine mv_iaddv (v := 3) d_TrustDeskLaw_law_258 (by decide) ?_
  refine mv_sld (v := (mj_xs g 3)) d_TrustDeskLaw_law_259 (by rw [hL]; unfold vp_in; decide) rfl ?_
  refine mv_callV (kc' := 6) (ks' := 241) (As := [.int (mj_xs g 1), .int (mj_xs g 2), .int (mj_xs g 3)]) (st9 := [.int (mj_xs g 3), .int (mj_xs g 2), .int (mj_xs g 1), .ref 64]) d_TrustDeskLaw_law_260 lV_TrustDeskLaw_24 h_64 rfl (c_TrustDesk_factOf_0 (d := (d + 7)) (x1 := (mj_xs g 1)) (x2 := (mj_xs g 2)) (x3 := (mj_xs g 3)) (h_64 := h_64) (h_65 := h_65)) rfl (Nat.le_of_ble_eq_true rfl) (Nat.le_of_ble_eq_true rfl) (Nat.le_of_ble_eq_true rfl) (hst := rfl) (fun b1r b1M b1n b1 => ?_)
  obtain ⟨rfl, b1⟩ := b1
  refine mv_aload_n d_TrustDeskLaw_law_263 rfl rfl ?_
  refine mv_aload_n d_TrustDeskLaw_law_264 rfl rfl ?_
  refine mv_iload d_TrustDeskLaw_law_265 rfl ?_
  refine mv_iconst (v := 1) d_TrustDeskLaw_law_267 (by decide) ?_
  refine mv_iaddv (v := 1) d_TrustDeskLaw_law_268 (by decide) ?_
  refine mv_sld (v := (mj_xs g 1)) d_TrustDeskLaw_law_269 (by rw [hL]; unfold vp_in; decide) rfl ?_
  refine mv_aload_n d_TrustDeskLaw_law_270 rfl rfl ?_
  refine mv_iload d_TrustDeskLaw_law_271 rfl ?_
  refine mv_iconst (v := 2) d_TrustDeskLaw_law_273 (by decide) ?_
  refine mv_iaddv (v := 2) d_TrustDeskLaw_law_274 (by decide) ?_
  refine mv_sld (v := (mj_xs g 2)) d_TrustDeskLaw_law_275 (by rw [hL]; unfold vp_in; decide) rfl ?_
  refine mv_aload_n d_TrustDeskLaw_law_276 rfl rfl ?_
  refine mv_iload d_TrustDeskLaw_law_277 rfl ?_
  refine mv_iconst (v := 3) d_TrustDeskLaw_law_279 (by decide) ?_
  refine mv_iaddv (v := 3) d_TrustDeskLaw_law_280 (by decide) ?_
  refine mv_sld (v := (mj_xs g 3)) d_TrustDeskLaw_law_281 (by rw [hL]; unfold vp_in; decide) rfl ?_
  refine mv_callV (kc' := 6) (ks' := 241) (As := [.int (mj_xs g 1), .int (mj_xs g 2), .int (mj_xs g 3)]) (st9 := [.int (mj_xs g 3), .int (mj_xs g 2), .int (mj_xs g 1), .ref 99, .int (e_factOf (mj_xs g 1) (mj_xs g 2) (mj_xs g 3))]) d_TrustDeskLaw_law_282 lV_TrustDeskLaw_28 ((b1 99 (by decide) (by decide)).trans h_99) rfl (c_TrustDeskModel_factOf_0 (d := (d + 7)) (x1 := (mj_xs g 1)) (x2 := (mj_xs g 2)) (x3 := (mj_xs g 3)) (h_99 := ((b1 99 (by decide) (by decide)).trans h_99))) rfl (Nat.le_of_ble_eq_true rfl) (Nat.le_of_ble_eq_true rfl) (Nat.le_of_ble_eq_true rfl) (hst := rfl) (fun b2r b2M b2n b2 => ?_)
  obtain ⟨rfl, b2⟩ := b2
  refine mv_icmp_eq_t (tgt := 1513) d_TrustDeskLaw_law_285 (by decide) rfl ?_
  refine mv_iinc (v := 6) (lv' := [(4, .int 6), (3, .ref 148), (2, .ref 99), (1, .ref 64), (0, .ref 50)]) d_TrustDeskLaw_law_1513 rfl (by decide) (by decide) rfl ?_
  refine mv_goto (tgt := 23) d_TrustDeskLaw_law_1516 (by decide) ?_
  refine mv_iload d_TrustDeskLaw_law_23 rfl ?_
  refine mv_aload_n d_TrustDeskLaw_law_25 rfl rfl ?_
  refine mv_slen (v := 6) d_TrustDeskLaw_law_26 (by rw [hL]; rfl) ?_
  refine mv_bipush (v := 6) d_TrustDeskLaw_law_27 (by decide) ?_
  refine mv_isubv (v := 0) d_TrustDeskLaw_law_29 (by decide) ?_
  refine mv_icmp_gt_t (tgt := 1519) d_TrustDeskLaw_law_30 (by decide) (by decide) ?_
  refine mv_iconst (v := 1) d_TrustDeskLaw_law_1519 (by decide) ?_
  exact mv_iret d_TrustDeskLaw_law_1520 rfl (by first | rfl | decide) rfl
theorem d_TrustDeskLaw_law_290 : decode kY_TrustDeskLaw_law.2.1 290 = .ok (.aload_n 1, 1) := by decide +kernel
theorem d_TrustDeskLaw_law_291 : decode kY_TrustDeskLaw_law.2.1 291 = .ok (.aload_n 0, 1) := by decide +kernel
theorem d_TrustDeskLaw_law_292 : decode kY_TrustDeskLaw_law.2.1 292 = .ok (.iload 4, 2) := by decide +kernel
theorem d_TrustDeskLaw_law_294 : decode kY_TrustDeskLaw_law.2.1 294 = .ok (.iconst 1, 1) := by decide +kernel
theorem d_TrustDeskLaw_law_295 : decode kY_TrustDeskLaw_law.2.1 295 = .ok (.iadd, 1) := by decide +kernel
theorem d_TrustDeskLaw_law_296 : decode kY_TrustDeskLaw_law.2.1 296 = .ok (.iaload, 1) := by decide +kernel
theorem d_TrustDeskLaw_law_297 : decode kY_TrustDeskLaw_law.2.1 297 = .ok (.aload_n 0, 1) := by decide +kernel
theorem d_TrustDeskLaw_law_298 : decode kY_TrustDeskLaw_law.2.1 298 = .ok (.iload 4, 2) := by decide +kernel
theorem d_TrustDeskLaw_law_300 : decode kY_TrustDeskLaw_law.2.1 300 = .ok (.iconst 2, 1) := by decide +kernel
theorem d_TrustDeskLaw_law_301 : decode kY_TrustDeskLaw_law.2.1 301 = .ok (.iadd, 1) := by decide +kernel
theorem d_TrustDeskLaw_law_302 : decode kY_TrustDeskLaw_law.2.1 302 = .ok (.iaload, 1) := by decide +kernel
theorem d_TrustDeskLaw_law_303 : decode kY_TrustDeskLaw_law.2.1 303 = .ok (.aload_n 0, 1) := by decide +kernel
theorem d_TrustDeskLaw_law_304 : decode kY_TrustDeskLaw_law.2.1 304 = .ok (.iload 4, 2) := by decide +kernel
theorem d_TrustDeskLaw_law_306 : decode kY_TrustDeskLaw_law.2.1 306 = .ok (.iconst 3, 1) := by decide +kernel
theorem d_TrustDeskLaw_law_307 : decode kY_TrustDeskLaw_law.2.1 307 = .ok (.iadd, 1) := by decide +kernel
theorem d_TrustDeskLaw_law_308 : decode kY_TrustDeskLaw_law.2.1 308 = .ok (.iaload, 1) := by decide +kernel
theorem d_TrustDeskLaw_law_309 : decode kY_TrustDeskLaw_law.2.1 309 = .ok (.aload_n 0, 1) := by decide +kernel
theorem d_TrustDeskLaw_law_310 : decode kY_TrustDeskLaw_law.2.1 310 = .ok (.iload 4, 2) := by decide +kernel
theorem d_TrustDeskLaw_law_312 : decode kY_TrustDeskLaw_law.2.1 312 = .ok (.iconst 4, 1) := by decide +kernel
theorem d_TrustDeskLaw_law_313 : decode kY_TrustDeskLaw_law.2.1 313 = .ok (.iadd, 1) := by decide +kernel
theorem d_TrustDeskLaw_law_314 : decode kY_TrustDeskLaw_law.2.1 314 = .ok (.iaload, 1) := by decide +kernel
theorem d_TrustDeskLaw_law_315 : decode kY_TrustDeskLaw_law.2.1 315 = .ok (.aload_n 0, 1) := by decide +kernel
theorem d_TrustDeskLaw_law_316 : decode kY_TrustDeskLaw_law.2.1 316 = .ok (.iload 4, 2) := by decide +kernel
theorem d_TrustDeskLaw_law_318 : decode kY_TrustDeskLaw_law.2.1 318 = .ok (.iconst 5, 1) := by decide +kernel
theorem d_TrustDeskLaw_law_319 : decode kY_TrustDeskLaw_law.2.1 319 = .ok (.iadd, 1) := by decide +kernel
theorem d_TrustDeskLaw_law_320 : decode kY_TrustDeskLaw_law.2.1 320 = .ok (.iaload, 1) := by decide +kernel
theorem d_TrustDeskLaw_law_321 : decode kY_TrustDeskLaw_law.2.1 321 = .ok (.invokevirtual 29, 3) := by decide +kernel
theorem lV_TrustDeskLaw_29 : mj_lV "TrustDeskLaw" 29 kY_TrustDesk_feed 5 := ⟨⟨(mj_in1 (List.mem_of_getElem? (i := 333) (by decide +kernel)) rfl), (mj_in1 (List.mem_of_getElem? (i := 1) (by decide +kernel)) rfl), (mj_in1 (List.mem_of_getElem? (i := 336) (by decide +kernel)) rfl), by decide, rfl, by decide⟩, (mj_in1 (List.mem_of_getElem? (i := 334) (by decide +kernel)) rfl), (mj_in1 (List.mem_of_getElem? (i := 335) (by decide +kernel)) rfl)⟩
theorem d_TrustDeskLaw_law_324 : decode kY_TrustDeskLaw_law.2.1 324 = .ok (.aload_n 2, 1) := by decide +kernel
theorem d_TrustDeskLaw_law_325 : decode kY_TrustDeskLaw_law.2.1 325 = .ok (.aload_n 0, 1) := by decide +kernel
theorem d_TrustDeskLaw_law_326 : decode kY_TrustDeskLaw_law.2.1 326 = .ok (.iload 4, 2) := by decide +kernel
theorem d_TrustDeskLaw_law_328 : decode kY_TrustDeskLaw_law.2.1 328 = .ok (.iconst 1, 1) := by decide +kernel
theorem d_TrustDeskLaw_law_329 : decode kY_TrustDeskLaw_law.2.1 329 = .ok (.iadd, 1) := by decide +kernel
theorem d_TrustDeskLaw_law_330 : decode kY_TrustDeskLaw_law.2.1 330 = .ok (.iaload, 1) := by decide +kernel
theorem d_TrustDeskLaw_law_331 : decode kY_TrustDeskLaw_law.2.1 331 = .ok (.aload_n 0, 1) := by decide +kernel
theorem d_TrustDeskLaw_law_332 : decode kY_TrustDeskLaw_law.2.1 332 = .ok (.iload 4, 2) := by decide +kernel
theorem d_TrustDeskLaw_law_334 : decode kY_TrustDeskLaw_law.2.1 334 = .ok (.iconst 2, 1) := by decide +kernel
theorem d_TrustDeskLaw_law_335 : decode kY_TrustDeskLaw_law.2.1 335 = .ok (.iadd, 1) := by decide +kernel
theorem d_TrustDeskLaw_law_336 : decode kY_TrustDeskLaw_law.2.1 336 = .ok (.iaload, 1) := by decide +kernel
theorem d_TrustDeskLaw_law_337 : decode kY_TrustDeskLaw_law.2.1 337 = .ok (.aload_n 0, 1) := by decide +kernel
theorem d_TrustDeskLaw_law_338 : decode kY_TrustDeskLaw_law.2.1 338 = .ok (.iload 4, 2) := by decide +kernel
theorem d_TrustDeskLaw_law_340 : decode kY_TrustDeskLaw_law.2.1 340 = .ok (.iconst 3, 1) := by decide +kernel
theorem d_TrustDeskLaw_law_341 : decode kY_TrustDeskLaw_law.2.1 341 = .ok (.iadd, 1) := by decide +kernel
theorem d_TrustDeskLaw_law_342 : decode kY_TrustDeskLaw_law.2.1 342 = .ok (.iaload, 1) := by decide +kernel
theorem d_TrustDeskLaw_law_343 : decode kY_TrustDeskLaw_law.2.1 343 = .ok (.aload_n 0, 1) := by decide +kernel
theorem d_TrustDeskLaw_law_344 : decode kY_TrustDeskLaw_law.2.1 344 = .ok (.iload 4, 2) := by decide +kernel
theorem d_TrustDeskLaw_law_346 : decode kY_TrustDeskLaw_law.2.1 346 = .ok (.iconst 4, 1) := by decide +kernel
theorem d_TrustDeskLaw_law_347 : decode kY_TrustDeskLaw_law.2.1 347 = .ok (.iadd, 1) := by decide +kernel
theorem d_TrustDeskLaw_law_348 : decode kY_TrustDeskLaw_law.2.1 348 = .ok (.iaload, 1) := by decide +kernel
theorem d_TrustDeskLaw_law_349 : decode kY_TrustDeskLaw_law.2.1 349 = .ok (.aload_n 0, 1) := by decide +kernel
theorem d_TrustDeskLaw_law_350 : decode kY_TrustDeskLaw_law.2.1 350 = .ok (.iload 4, 2) := by decide +kernel
theorem d_TrustDeskLaw_law_352 : decode kY_TrustDeskLaw_law.2.1 352 = .ok (.iconst 5, 1) := by decide +kernel
theorem d_TrustDeskLaw_law_353 : decode kY_TrustDeskLaw_law.2.1 353 = .ok (.iadd, 1) := by decide +kernel
theorem d_TrustDeskLaw_law_354 : decode kY_TrustDeskLaw_law.2.1 354 = .ok (.iaload, 1) := by decide +kernel
theorem d_TrustDeskLaw_law_355 : decode kY_TrustDeskLaw_law.2.1 355 = .ok (.invokevirtual 33, 3) := by decide +kernel
theorem lV_TrustDeskLaw_33 : mj_lV "TrustDeskLaw" 33 kY_TrustDeskModel_feed 5 := ⟨⟨(mj_in1 (List.mem_of_getElem? (i := 1631) (by decide +kernel)) rfl), (mj_in1 (List.mem_of_getElem? (i := 10) (by decide +kernel)) rfl), (mj_in1 (List.mem_of_getElem? (i := 1634) (by decide +kernel)) rfl), by decide, rfl, by decide⟩, (mj_in1 (List.mem_of_getElem? (i := 1632) (by decide +kernel)) rfl), (mj_in1 (List.mem_of_getElem? (i := 1633) (by decide +kernel)) rfl)⟩
theorem d_TrustDeskLaw_law_358 : decode kY_TrustDeskLaw_law.2.1 358 = .ok (.if_icmp .eq 1155, 3) := by decide +kernel
theorem lw_case_2 {g : mj_G} {l : Launch} {d nx : Nat} {M : mj_M} (h_64 : M 64 = some (.inr (12, [.ref 65, .ref 70, .ref 77, .ref 80, .ref 90, .ref 94, .ref 95, .ref 96, .ref 97, .ref 98, .int 0, .int 0, .int 0]))) (h_70 : M 70 = some (.inr (9, [.int 0, .int 0, .int (-1), .ref 71, .ref 72, .ref 73, .ref 74, .ref 75, .int 0, .int 0, .int 0, .int 0, .int 0, .int 0, .int 0, .int 0, .int 0, .ref 76, .int 0]))) (h_71 : M 71 = some (.inl (0, 400, .inl (fun _ => 0)))) (h_99 : M 99 = some (.inr (13, [.int 0, .int 0, .int 0, .ref 100, .ref 101, .ref 102, .ref 103, .ref 104, .ref 105, .ref 106, .ref 107, .ref 108, .ref 109, .ref 110, .int 0, .int 0, .int 0, .int 0, .int 0, .int 0, .int 0, .int (-1), .int 0, .int 0, .int 0, .ref 111, .ref 112, .int 0, .ref 113, .ref 114, .ref 115, .int 0, .int 0, .ref 116, .ref 117, .ref 118, .ref 119, .ref 120, .ref 121, .ref 122, .ref 123, .ref 124, .ref 125, .ref 126, .ref 127, .ref 128, .ref 129, .ref 130, .ref 131, .int 0, .ref 132, .int 0, .ref 133, .int 0, .ref 134, .ref 135, .ref 136, .ref 137, .ref 138, .ref 139, .ref 140, .ref 141, .ref 142, .ref 143, .ref 144, .ref 145, .ref 146, .int 0, .long 0, .int 0, .int 0, .ref 147]))) (h_110 : M 110 = some (.inl (3, 400, .inl (fun _ => 0)))) (hL : mj_L g = 6) : mj_V g l kY_TrustDeskLaw_law (d + 9) 290 [(4, .int 0), (3, .ref 148), (2, .ref 99), (1, .ref 64), (0, .ref 50)] [] M 149 6 241 (fun r _ _ => r = some (.int 1)) := by
  refine mv_aload_n d_TrustDeskLaw_law_290 rfl rfl ?_
  refine mv_aload_n d_TrustDeskLaw_law_291 rfl rfl ?_
  refine mv_iload d_TrustDeskLaw_law_292 rfl ?_
  refine mv_iconst (v := 1) d_TrustDeskLaw_law_294 (by decide) ?_
  refine mv_iaddv (v := 1) d_TrustDeskLaw_law_295 (by decide) ?_
  refine mv_sld (v := (mj_xs g 1)) d_TrustDeskLaw_law_296 (by rw [hL]; unfold vp_in; decide) rfl ?_
  refine mv_aload_n d_TrustDeskLaw_law_297 rfl rfl ?_
  refine mv_iload d_TrustDeskLaw_law_298 rfl ?_
  refine mv_iconst (v := 2) d_TrustDeskLaw_law_300 (by decide) ?_
  refine mv_iaddv (v := 2) d_TrustDeskLaw_law_301 (by decide) ?_
  refine mv_sld (v := (mj_xs g 2)) d_TrustDeskLaw_law_302 (by rw [hL]; unfold vp_in; decide) rfl ?_
  refine mv_aload_n d_TrustDeskLaw_law_303 rfl rfl ?_
  refine mv_iload d_TrustDeskLaw_law_304 rfl ?_
  refine mv_iconst (v := 3) d_TrustDeskLaw_law_306 (by decide) ?_
  refine mv_iaddv (v := 3) d_TrustDeskLaw_law_307 (by decide) ?_
  refine mv_sld (v := (mj_xs g 3)) d_TrustDeskLaw_law_308 (by rw [hL]; unfold vp_in; decide) rfl ?_
  refine mv_aload_n d_TrustDeskLaw_law_309 rfl rfl ?_
  refine mv_iload d_TrustDeskLaw_law_310 rfl ?_
  refine mv_iconst (v := 4) d_TrustDeskLaw_law_312 (by decide) ?_
  refine mv_iaddv (v := 4) d_TrustDeskLaw_law_313 (by decide) ?_
  refine mv_sld (v := (mj_xs g 4)) d_TrustDeskLaw_law_314 (by rw [hL]; unfold vp_in; decide) rfl ?_
  refine mv_aload_n d_TrustDeskLaw_law_315 rfl rfl ?_
  refine mv_iload d_TrustDeskLaw_law_316 rfl ?_
  refine mv_iconst (v := 5) d_TrustDeskLaw_law_318 (by decide) ?_
  refine mv_iaddv (v := 5) d_TrustDeskLaw_law_319 (by decide) ?_
  refine mv_sld (v := (mj_xs g 5)) d_TrustDeskLaw_law_320 (by rw [hL]; unfold vp_in; decide) rfl ?_
  refine mv_callV_s (kc' := 6) (ks' := 241) [.int (mj_xs g 1), .int (mj_xs g 2), .int (mj_xs g 3), .int (mj_xs g 4), .int (mj_xs g 5)] [.int (mj_xs g 5), .int (mj_xs g 4), .int (mj_xs g 3), .int (mj_xs g 2), .int (mj_xs g 1), .ref 64] d_TrustDeskLaw_law_321 lV_TrustDeskLaw_29 h_64 rfl (c_TrustDesk_feed_0 (d := (d + 7)) (x1 := (mj_xs g 1)) (x2 := (mj_xs g 2)) (x3 := (mj_xs g 3)) (x4 := (mj_xs g 4)) (x5 := (mj_xs g 5)) (h_64 := h_64) (h_70 := h_70) (h_71 := h_71)) rfl (Nat.le_of_ble_eq_true rfl) (Nat.le_of_ble_eq_true rfl) (Nat.le_of_ble_eq_true rfl) rfl ?_
  refine mv_aload_n d_TrustDeskLaw_law_324 rfl rfl ?_
  refine mv_aload_n d_TrustDeskLaw_law_325 rfl rfl ?_
  refine mv_iload d_TrustDeskLaw_law_326 rfl ?_
  refine mv_iconst (v := 1) d_TrustDeskLaw_law_328 (by decide) ?_
  refine mv_iaddv (v := 1) d_TrustDeskLaw_law_329 (by decide) ?_
  refine mv_sld (v := (mj_xs g 1)) d_TrustDeskLaw_law_330 (by rw [hL]; unfold vp_in; decide) rfl ?_
  refine mv_aload_n d_TrustDeskLaw_law_331 rfl rfl ?_
  refine mv_iload d_TrustDeskLaw_law_332 rfl ?_
  refine mv_iconst (v := 2) d_TrustDeskLaw_law_334 (by decide) ?_
  refine mv_iaddv (v := 2) d_TrustDeskLaw_law_335 (by decide) ?_
  refine mv_sld (v := (mj_xs g 2)) d_TrustDeskLaw_law_336 (by rw [hL]; unfold vp_in; decide) rfl ?_
  refine mv_aload_n d_TrustDeskLaw_law_337 rfl rfl ?_
  refine mv_iload d_TrustDeskLaw_law_338 rfl ?_
  refine mv_iconst (v := 3) d_TrustDeskLaw_law_340 (by decide) ?_
  refine mv_iaddv (v := 3) d_TrustDeskLaw_law_341 (by decide) ?_
  refine mv_sld (v := (mj_xs g 3)) d_TrustDeskLaw_law_342 (by rw [hL]; unfold vp_in; decide) rfl ?_
  refine mv_aload_n d_TrustDeskLaw_law_343 rfl rfl ?_
  refine mv_iload d_TrustDeskLaw_law_344 rfl ?_
  refine mv_iconst (v := 4) d_TrustDeskLaw_law_346 (by decide) ?_
  refine mv_iaddv (v := 4) d_TrustDeskLaw_law_347 (by decide) ?_
  refine mv_sld (v := (mj_xs g 4)) d_TrustDeskLaw_law_348 (by rw [hL]; unfold vp_in; decide) rfl ?_
  refine mv_aload_n d_TrustDeskLaw_law_349 rfl rfl ?_
  refine mv_iload d_TrustDeskLaw_law_350 rfl ?_
  refine mv_iconst (v := 5) d_TrustDeskLaw_law_352 (by decide) ?_
  refine mv_iaddv (v := 5) d_TrustDeskLaw_law_353 (by decide) ?_
  refine mv_sld (v := (mj_xs g 5)) d_TrustDeskLaw_law_354 (by rw [hL]; unfold vp_in; decide) rfl ?_
  refine mv_callV_s (kc' := 6) (ks' := 241) [.int (mj_xs g 1), .int (mj_xs g 2), .int (mj_xs g 3), .int (mj_xs g 4), .int (mj_xs g 5)] [.int (mj_xs g 5), .int (mj_xs g 4), .int (mj_xs g 3), .int (mj_xs g 2), .int (mj_xs g 1), .ref 99, .int 20] d_TrustDeskLaw_law_355 lV_TrustDeskLaw_33 ((mj_up_ne _ _ (Nat.ne_of_beq_eq_false rfl)).trans ((mj_up_ne _ _ (Nat.ne_of_beq_eq_false rfl)).trans ((mj_up_ne _ _ (Nat.ne_of_beq_eq_false rfl)).trans ((mj_up_ne _ _ (Nat.ne_of_beq_eq_false rfl)).trans ((mj_up_ne _ _ (Nat.ne_of_beq_eq_false rfl)).trans ((mj_up_ne _ _ (Nat.ne_of_beq_eq_false rfl)).trans ((mj_up_ne _ _ (Nat.ne_of_beq_eq_false rfl)).trans ((mj_up_ne _ _ (Nat.ne_of_beq_eq_false rfl)).trans ((mj_up_ne _ _ (Nat.ne_of_beq_eq_false rfl)).trans ((mj_up_ne _ _ (Nat.ne_of_beq_eq_false rfl)).trans ((mj_up_ne _ _ (Nat.ne_of_beq_eq_false rfl)).trans ((mj_up_ne _ _ (Nat.ne_of_beq_eq_false rfl)).trans ((mj_up_ne _ _ (Nat.ne_of_beq_eq_false rfl)).trans ((mj_up_ne _ _ (Nat.ne_of_beq_eq_false rfl)).trans ((mj_up_ne _ _ (Nat.ne_of_beq_eq_false rfl)).trans ((mj_up_ne _ _ (Nat.ne_of_beq_eq_false rfl)).trans ((mj_up_ne _ _ (Nat.ne_of_beq_eq_false rfl)).trans ((mj_up_ne _ _ (Nat.ne_of_beq_eq_false rfl)).trans ((mj_up_ne _ _ (Nat.ne_of_beq_eq_false rfl)).trans ((mj_up_ne _ _ (Nat.ne_of_beq_eq_false rfl)).trans ((mj_up_ne _ _ (Nat.ne_of_beq_eq_false rfl)).trans ((mj_up_ne _ _ (Nat.ne_of_beq_eq_false rfl)).trans ((mj_up_ne _ _ (Nat.ne_of_beq_eq_false rfl)).trans ((mj_up_ne _ _ (Nat.ne_of_beq_eq_false rfl)).trans ((mj_up_ne _ _ (Nat.ne_of_beq_eq_false rfl)).trans ((mj_up_ne _ _ (Nat.ne_of_beq_eq_false rfl)).trans ((mj_up_ne _ _ (Nat.ne_of_beq_eq_false rfl)).trans ((mj_up_ne _ _ (Nat.ne_of_beq_eq_false rfl)).trans ((mj_up_ne _ _ (Nat.ne_of_beq_eq_false rfl)).trans ((mj_up_ne _ _ (Nat.ne_of_beq_eq_false rfl)).trans ((mj_up_ne _ _ (Nat.ne_of_beq_eq_false rfl)).trans ((mj_up_ne _ _ (Nat.ne_of_beq_eq_false rfl)).trans ((mj_up_ne _ _ (Nat.ne_of_beq_eq_false rfl)).trans ((mj_up_ne _ _ (Nat.ne_of_beq_eq_false rfl)).trans ((mj_up_ne _ _ (Nat.ne_of_beq_eq_false rfl)).trans ((mj_up_ne _ _ (Nat.ne_of_beq_eq_false rfl)).trans ((mj_up_ne _ _ (Nat.ne_of_beq_eq_false rfl)).trans ((mj_up_ne _ _ (Nat.ne_of_beq_eq_false rfl)).trans ((mj_up_ne _ _ (Nat.ne_of_beq_eq_false rfl)).trans ((mj_up_ne _ _ (Nat.ne_of_beq_eq_false rfl)).trans h_99)))))))))))))))))))))))))))))))))))))))) rfl (c_TrustDeskModel_feed_0 (d := (d + 8)) (x1 := (mj_xs g 1)) (x2 := (mj_xs g 2)) (x3 := (mj_xs g 3)) (x4 := (mj_xs g 4)) (x5 := (mj_xs g 5)) (h_99 := ((mj_up_ne _ _ (Nat.ne_of_beq_eq_false rfl)).trans ((mj_up_ne _ _ (Nat.ne_of_beq_eq_false rfl)).trans ((mj_up_ne _ _ (Nat.ne_of_beq_eq_false rfl)).trans ((mj_up_ne _ _ (Nat.ne_of_beq_eq_false rfl)).trans ((mj_up_ne _ _ (Nat.ne_of_beq_eq_false rfl)).trans ((mj_up_ne _ _ (Nat.ne_of_beq_eq_false rfl)).trans ((mj_up_ne _ _ (Nat.ne_of_beq_eq_false rfl)).trans ((mj_up_ne _ _ (Nat.ne_of_beq_eq_false rfl)).trans ((mj_up_ne _ _ (Nat.ne_of_beq_eq_false rfl)).trans ((mj_up_ne _ _ (Nat.ne_of_beq_eq_false rfl)).trans ((mj_up_ne _ _ (Nat.ne_of_beq_eq_false rfl)).trans ((mj_up_ne _ _ (Nat.ne_of_beq_eq_false rfl)).trans ((mj_up_ne _ _ (Nat.ne_of_beq_eq_false rfl)).trans ((mj_up_ne _ _ (Nat.ne_of_beq_eq_false rfl)).trans ((mj_up_ne _ _ (Nat.ne_of_beq_eq_false rfl)).trans ((mj_up_ne _ _ (Nat.ne_of_beq_eq_false rfl)).trans ((mj_up_ne _ _ (Nat.ne_of_beq_eq_false rfl)).trans ((mj_up_ne _ _ (Nat.ne_of_beq_eq_false rfl)).trans ((mj_up_ne _ _ (Nat.ne_of_beq_eq_false rfl)).trans ((mj_up_ne _ _ (Nat.ne_of_beq_eq_false rfl)).trans ((mj_up_ne _ _ (Nat.ne_of_beq_eq_false rfl)).trans ((mj_up_ne _ _ (Nat.ne_of_beq_eq_false rfl)).trans ((mj_up_ne _ _ (Nat.ne_of_beq_eq_false rfl)).trans ((mj_up_ne _ _ (Nat.ne_of_beq_eq_false rfl)).trans ((mj_up_ne _ _ (Nat.ne_of_beq_eq_false rfl)).trans ((mj_up_ne _ _ (Nat.ne_of_beq_eq_false rfl)).trans ((mj_up_ne _ _ (Nat.ne_of_beq_eq_false rfl)).trans ((mj_up_ne _ _ (Nat.ne_of_beq_eq_false rfl)).trans ((mj_up_ne _ _ (Nat.ne_of_beq_eq_false rfl)).trans ((mj_up_ne _ _ (Nat.ne_of_beq_eq_false rfl)).trans ((mj_up_ne _ _ (Nat.ne_of_beq_eq_false rfl)).trans ((mj_up_ne _ _ (Nat.ne_of_beq_eq_false rfl)).trans ((mj_up_ne _ _ (Nat.ne_of_beq_eq_false rfl)).trans ((mj_up_ne _ _ (Nat.ne_of_beq_eq_false rfl)).trans ((mj_up_ne _ _ (Nat.ne_of_beq_eq_false rfl)).trans ((mj_up_ne _ _ (Nat.ne_of_beq_eq_false rfl)).trans ((mj_up_ne _ _ (Nat.ne_of_beq_eq_false rfl)).trans ((mj_up_ne _ _ (Nat.ne_of_beq_eq_false rfl)).trans ((mj_up_ne _ _ (Nat.ne_of_beq_eq_false rfl)).trans ((mj_up_ne _ _ (Nat.ne_of_beq_eq_false rfl)).trans h_99))))))))))))))))))))))))))))))))))))))))) (h_110 := ((mj_up_ne _ _ (Nat.ne_of_beq_eq_false rfl)).trans ((mj_up_ne _ _ (Nat.ne_of_beq_eq_false rfl)).trans ((mj_up_ne _ _ (Nat.ne_of_beq_eq_false rfl)).trans ((mj_up_ne _ _ (Nat.ne_of_beq_eq_false rfl)).trans ((mj_up_ne _ _ (Nat.ne_of_beq_eq_false rfl)).trans ((mj_up_ne _ _ (Nat.ne_of_beq_eq_false rfl)).trans ((mj_up_ne _ _ (Nat.ne_of_beq_eq_false rfl)).trans ((mj_up_ne _ _ (Nat.ne_of_beq_eq_false rfl)).trans ((mj_up_ne _ _ (Nat.ne_of_beq_eq_false rfl)).trans ((mj_up_ne _ _ (Nat.ne_of_beq_eq_false rfl)).trans ((mj_up_ne _ _ (Nat.ne_of_beq_eq_false rfl)).trans ((mj_up_ne _ _ (Nat.ne_of_beq_eq_false rfl)).trans ((mj_up_ne _ _ (Nat.ne_of_beq_eq_false rfl)).trans ((mj_up_ne _ _ (Nat.ne_of_beq_eq_false rfl)).trans ((mj_up_ne _ _ (Nat.ne_of_beq_eq_false rfl)).trans ((mj_up_ne _ _ (Nat.ne_of_beq_eq_false rfl)).trans ((mj_up_ne _ _ (Nat.ne_of_beq_eq_false rfl)).trans ((mj_up_ne _ _ (Nat.ne_of_beq_eq_false rfl)).trans ((mj_up_ne _ _ (Nat.ne_of_beq_eq_false rfl)).trans ((mj_up_ne _ _ (Nat.ne_of_beq_eq_false rfl)).trans ((mj_up_ne _ _ (Nat.ne_of_beq_eq_false rfl)).trans ((mj_up_ne _ _ (Nat.ne_of_beq_eq_false rfl)).trans ((mj_up_ne _ _ (Nat.ne_of_beq_eq_false rfl)).trans ((mj_up_ne _ _ (Nat.ne_of_beq_eq_false rfl)).trans ((mj_up_ne _ _ (Nat.ne_of_beq_eq_false rfl)).trans ((mj_up_ne _ _ (Nat.ne_of_beq_eq_false rfl)).trans ((mj_up_ne _ _ (Nat.ne_of_beq_eq_false rfl)).trans ((mj_up_ne _ _ (Nat.ne_of_beq_eq_false rfl)).trans ((mj_up_ne _ _ (Nat.ne_of_beq_eq_false rfl)).trans ((mj_up_ne _ _ (Nat.ne_of_beq_eq_false rfl)).trans ((mj_up_ne _ _ (Nat.ne_of_beq_eq_false rfl)).trans ((mj_up_ne _ _ (Nat.ne_of_beq_eq_false rfl)).trans ((mj_up_ne _ _ (Nat.ne_of_beq_eq_false rfl)).trans ((mj_up_ne _ _ (Nat.ne_of_beq_eq_false rfl)).trans ((mj_up_ne _ _ (Nat.ne_of_beq_eq_false rfl)).trans ((mj_up_ne _ _ (Nat.ne_of_beq_eq_false rfl)).trans ((mj_up_ne _ _ (Nat.ne_of_beq_eq_false rfl)).trans ((mj_up_ne _ _ (Nat.ne_of_beq_eq_false rfl)).trans ((mj_up_ne _ _ (Nat.ne_of_beq_eq_false rfl)).trans ((mj_up_ne _ _ (Nat.ne_of_beq_eq_false rfl)).trans h_110)))))))))))))))))))))))))))))))))))))))))) rfl (Nat.le_of_ble_eq_true rfl) (Nat.le_of_ble_eq_true rfl) (Nat.le_of_ble_eq_true rfl) rfl ?_
  refine mv_icmp_eq_t (tgt := 1513) d_TrustDeskLaw_law_358 (by decide) (by decide) ?_
  refine mv_iinc (v := 6) (lv' := [(4, .int 6), (3, .ref 148), (2, .ref 99), (1, .ref 64), (0, .ref 50)]) d_TrustDeskLaw_law_1513 rfl (by decide) (by decide) rfl ?_
  refine mv_goto (tgt := 23) d_TrustDeskLaw_law_1516 (by decide) ?_
  refine mv_iload d_TrustDeskLaw_law_23 rfl ?_
  refine mv_aload_n d_TrustDeskLaw_law_25 rfl rfl ?_
  refine mv_slen (v := 6) d_TrustDeskLaw_law_26 (by rw [hL]; rfl) ?_
  refine mv_bipush (v := 6) d_TrustDeskLaw_law_27 (by decide) ?_
  refine mv_isubv (v := 0) d_TrustDeskLaw_law_29 (by decide) ?_
  refine mv_icmp_gt_t (tgt := 1519) d_TrustDeskLaw_law_30 (by decide) (by decide) ?_
  refine mv_iconst (v := 1) d_TrustDeskLaw_law_1519 (by decide) ?_
  exact mv_iret d_TrustDeskLaw_law_1520 rfl (by first | rfl | decide) rfl
theorem d_TrustDeskLaw_law_363 : decode kY_TrustDeskLaw_law.2.1 363 = .ok (.aload_n 1, 1) := by decide +kernel
theorem d_TrustDeskLaw_law_364 : decode kY_TrustDeskLaw_law.2.1 364 = .ok (.aload_n 0, 1) := by decide +kernel
theorem d_TrustDeskLaw_law_365 : decode kY_TrustDeskLaw_law.2.1 365 = .ok (.iload 4, 2) := by decide +kernel
theorem d_TrustDeskLaw_law_367 : decode kY_TrustDeskLaw_law.2.1 367 = .ok (.iconst 1, 1) := by decide +kernel
theorem d_TrustDeskLaw_law_368 : decode kY_TrustDeskLaw_law.2.1 368 = .ok (.iadd, 1) := by decide +kernel
theorem d_TrustDeskLaw_law_369 : decode kY_TrustDeskLaw_law.2.1 369 = .ok (.iaload, 1) := by decide +kernel
theorem d_TrustDeskLaw_law_370 : decode kY_TrustDeskLaw_law.2.1 370 = .ok (.invokevirtual 34, 3) := by decide +kernel
theorem lV_TrustDeskLaw_34 : mj_lV "TrustDeskLaw" 34 kY_TrustDesk_end 1 := ⟨⟨(mj_in1 (List.mem_of_getElem? (i := 341) (by decide +kernel)) rfl), (mj_in1 (List.mem_of_getElem? (i := 1) (by decide +kernel)) rfl), (mj_in1 (List.mem_of_getElem? (i := 344) (by decide +kernel)) rfl), by decide, rfl, by decide⟩, (mj_in1 (List.mem_of_getElem? (i := 342) (by decide +kernel)) rfl), (mj_in1 (List.mem_of_getElem? (i := 343) (by decide +kernel)) rfl)⟩
theorem d_TrustDeskLaw_law_373 : decode kY_TrustDeskLaw_law.2.1 373 = .ok (.aload_n 2, 1) := by decide +kernel
theorem d_TrustDeskLaw_law_374 : decode kY_TrustDeskLaw_law.2.1 374 = .ok (.aload_n 0, 1) := by decide +kernel
theorem d_TrustDeskLaw_law_375 : decode kY_TrustDeskLaw_law.2.1 375 = .ok (.iload 4, 2) := by decide +kernel
theorem d_TrustDeskLaw_law_377 : decode kY_TrustDeskLaw_law.2.1 377 = .ok (.iconst 1, 1) := by decide +kernel
theorem d_TrustDeskLaw_law_378 : decode kY_TrustDeskLaw_law.2.1 378 = .ok (.iadd, 1) := by decide +kernel
theorem d_TrustDeskLaw_law_379 : decode kY_TrustDeskLaw_law.2.1 379 = .ok (.iaload, 1) := by decide +kernel
theorem d_TrustDeskLaw_law_380 : decode kY_TrustDeskLaw_law.2.1 380 = .ok (.invokevirtual 38, 3) := by decide +kernel
theorem lV_TrustDeskLaw_38 : mj_lV "TrustDeskLaw" 38 kY_TrustDeskModel_end 1 := ⟨⟨(mj_in1 (List.mem_of_getElem? (i := 1635) (by decide +kernel)) rfl), (mj_in1 (List.mem_of_getElem? (i := 10) (by decide +kernel)) rfl), (mj_in1 (List.mem_of_getElem? (i := 1638) (by decide +kernel)) rfl), by decide, rfl, by decide⟩, (mj_in1 (List.mem_of_getElem? (i := 1636) (by decide +kernel)) rfl), (mj_in1 (List.mem_of_getElem? (i := 1637) (by decide +kernel)) rfl)⟩
theorem d_TrustDeskLaw_law_383 : decode kY_TrustDeskLaw_law.2.1 383 = .ok (.if_icmp .eq 1130, 3) := by decide +kernel
theorem lw_case_3 {g : mj_G} {l : Launch} {d nx : Nat} {M : mj_M} (h_64 : M 64 = some (.inr (12, [.ref 65, .ref 70, .ref 77, .ref 80, .ref 90, .ref 94, .ref 95, .ref 96, .ref 97, .ref 98, .int 0, .int 0, .int 0]))) (h_70 : M 70 = some (.inr (9, [.int 0, .int 0, .int (-1), .ref 71, .ref 72, .ref 73, .ref 74, .ref 75, .int 0, .int 0, .int 0, .int 0, .int 0, .int 0, .int 0, .int 0, .int 0, .ref 76, .int 0]))) (h_99 : M 99 = some (.inr (13, [.int 0, .int 0, .int 0, .ref 100, .ref 101, .ref 102, .ref 103, .ref 104, .ref 105, .ref 106, .ref 107, .ref 108, .ref 109, .ref 110, .int 0, .int 0, .int 0, .int 0, .int 0, .int 0, .int 0, .int (-1), .int 0, .int 0, .int 0, .ref 111, .ref 112, .int 0, .ref 113, .ref 114, .ref 115, .int 0, .int 0, .ref 116, .ref 117, .ref 118, .ref 119, .ref 120, .ref 121, .ref 122, .ref 123, .ref 124, .ref 125, .ref 126, .ref 127, .ref 128, .ref 129, .ref 130, .ref 131, .int 0, .ref 132, .int 0, .ref 133, .int 0, .ref 134, .ref 135, .ref 136, .ref 137, .ref 138, .ref 139, .ref 140, .ref 141, .ref 142, .ref 143, .ref 144, .ref 145, .ref 146, .int 0, .long 0, .int 0, .int 0, .ref 147]))) (hL : mj_L g = 6) : mj_V g l kY_TrustDeskLaw_law (d + 9) 363 [(4, .int 0), (3, .ref 148), (2, .ref 99), (1, .ref 64), (0, .ref 50)] [] M 149 6 241 (fun r _ _ => r = some (.int 1)) := by
  refine mv_aload_n d_TrustDeskLaw_law_363 rfl rfl ?_
  refine mv_aload_n d_TrustDeskLaw_law_364 rfl rfl ?_
  refine mv_iload d_TrustDeskLaw_law_365 rfl ?_
  refine mv_iconst (v := 1) d_TrustDeskLaw_law_367 (by decide) ?_
  refine mv_iaddv (v := 1) d_TrustDeskLaw_law_368 (by decide) ?_
  refine mv_sld (v := (mj_xs g 1)) d_TrustDeskLaw_law_369 (by rw [hL]; unfold vp_in; decide) rfl ?_
  refine mv_callV (kc' := 6) (ks' := 241) (As := [.int (mj_xs g 1)]) (st9 := [.int (mj_xs g 1), .ref 64]) d_TrustDeskLaw_law_370 lV_TrustDeskLaw_34 h_64 rfl (c_TrustDesk_end_0 (d := (d + 8)) (x1 := (mj_xs g 1)) (h_64 := h_64) (h_70 := h_70)) rfl (Nat.le_of_ble_eq_true rfl) (Nat.le_of_ble_eq_true rfl) (Nat.le_of_ble_eq_true rfl) (hst := rfl) (fun b1r b1M b1n b1 => ?_)
  obtain ⟨rfl, b1⟩ := b1
  refine mv_aload_n d_TrustDeskLaw_law_373 rfl rfl ?_
  refine mv_aload_n d_TrustDeskLaw_law_374 rfl rfl ?_
  refine mv_iload d_TrustDeskLaw_law_375 rfl ?_
  refine mv_iconst (v := 1) d_TrustDeskLaw_law_377 (by decide) ?_
  refine mv_iaddv (v := 1) d_TrustDeskLaw_law_378 (by decide) ?_
  refine mv_sld (v := (mj_xs g 1)) d_TrustDeskLaw_law_379 (by rw [hL]; unfold vp_in; decide) rfl ?_
  refine mv_callV (kc' := 6) (ks' := 241) (As := [.int (mj_xs g 1)]) (st9 := [.int (mj_xs g 1), .ref 99, .int (e_end (mj_xs g 1))]) d_TrustDeskLaw_law_380 lV_TrustDeskLaw_38 ((b1 99 (by decide) (by decide)).trans h_99) rfl (c_TrustDeskModel_end_0 (d := (d + 8)) (x1 := (mj_xs g 1)) (h_99 := ((b1 99 (by decide) (by decide)).trans h_99))) rfl (Nat.le_of_ble_eq_true rfl) (Nat.le_of_ble_eq_true rfl) (Nat.le_of_ble_eq_true rfl) (hst := rfl) (fun b2r b2M b2n b2 => ?_)
  obtain ⟨rfl, b2⟩ := b2
  refine mv_icmp_eq_t (tgt := 1513) d_TrustDeskLaw_law_383 (by decide) rfl ?_
  refine mv_iinc (v := 6) (lv' := [(4, .int 6), (3, .ref 148), (2, .ref 99), (1, .ref 64), (0, .ref 50)]) d_TrustDeskLaw_law_1513 rfl (by decide) (by decide) rfl ?_
  refine mv_goto (tgt := 23) d_TrustDeskLaw_law_1516 (by decide) ?_
  refine mv_iload d_TrustDeskLaw_law_23 rfl ?_
  refine mv_aload_n d_TrustDeskLaw_law_25 rfl rfl ?_
  refine mv_slen (v := 6) d_TrustDeskLaw_law_26 (by rw [hL]; rfl) ?_
  refine mv_bipush (v := 6) d_TrustDeskLaw_law_27 (by decide) ?_
  refine mv_isubv (v := 0) d_TrustDeskLaw_law_29 (by decide) ?_
  refine mv_icmp_gt_t (tgt := 1519) d_TrustDeskLaw_law_30 (by decide) (by decide) ?_
  refine mv_iconst (v := 1) d_TrustDeskLaw_law_1519 (by decide) ?_
  exact mv_iret d_TrustDeskLaw_law_1520 rfl (by first | rfl | decide) rfl
theorem d_TrustDeskLaw_law_388 : decode kY_TrustDeskLaw_law.2.1 388 = .ok (.aload_n 1, 1) := by decide +kernel
theorem d_TrustDeskLaw_law_389 : decode kY_TrustDeskLaw_law.2.1 389 = .ok (.aload_n 0, 1) := by decide +kernel
theorem d_TrustDeskLaw_law_390 : decode kY_TrustDeskLaw_law.2.1 390 = .ok (.iload 4, 2) := by decide +kernel
theorem d_TrustDeskLaw_law_392 : decode kY_TrustDeskLaw_law.2.1 392 = .ok (.iconst 1, 1) := by decide +kernel
theorem d_TrustDeskLaw_law_393 : decode kY_TrustDeskLaw_law.2.1 393 = .ok (.iadd, 1) := by decide +kernel
theorem d_TrustDeskLaw_law_394 : decode kY_TrustDeskLaw_law.2.1 394 = .ok (.iaload, 1) := by decide +kernel
theorem d_TrustDeskLaw_law_395 : decode kY_TrustDeskLaw_law.2.1 395 = .ok (.invokevirtual 39, 3) := by decide +kernel
theorem lV_TrustDeskLaw_39 : mj_lV "TrustDeskLaw" 39 kY_TrustDesk_act 1 := ⟨⟨(mj_in1 (List.mem_of_getElem? (i := 345) (by decide +kernel)) rfl), (mj_in1 (List.mem_of_getElem? (i := 1) (by decide +kernel)) rfl), (mj_in1 (List.mem_of_getElem? (i := 348) (by decide +kernel)) rfl), by decide, rfl, by decide⟩, (mj_in1 (List.mem_of_getElem? (i := 346) (by decide +kernel)) rfl), (mj_in1 (List.mem_of_getElem? (i := 347) (by decide +kernel)) rfl)⟩
theorem d_TrustDeskLaw_law_398 : decode kY_TrustDeskLaw_law.2.1 398 = .ok (.aload_n 2, 1) := by decide +kernel
theorem d_TrustDeskLaw_law_399 : decode kY_TrustDeskLaw_law.2.1 399 = .ok (.aload_n 0, 1) := by decide +kernel
theorem d_TrustDeskLaw_law_400 : decode kY_TrustDeskLaw_law.2.1 400 = .ok (.iload 4, 2) := by decide +kernel
theorem d_TrustDeskLaw_law_402 : decode kY_TrustDeskLaw_law.2.1 402 = .ok (.iconst 1, 1) := by decide +kernel
theorem d_TrustDeskLaw_law_403 : decode kY_TrustDeskLaw_law.2.1 403 = .ok (.iadd, 1) := by decide +kernel
theorem d_TrustDeskLaw_law_404 : decode kY_TrustDeskLaw_law.2.1 404 = .ok (.iaload, 1) := by decide +kernel
theorem d_TrustDeskLaw_law_405 : decode kY_TrustDeskLaw_law.2.1 405 = .ok (.invokevirtual 42, 3) := by decide +kernel
theorem lV_TrustDeskLaw_42 : mj_lV "TrustDeskLaw" 42 kY_TrustDeskModel_act 1 := ⟨⟨(mj_in1 (List.mem_of_getElem? (i := 1643) (by decide +kernel)) rfl), (mj_in1 (List.mem_of_getElem? (i := 10) (by decide +kernel)) rfl), (mj_in1 (List.mem_of_getElem? (i := 1646) (by decide +kernel)) rfl), by decide, rfl, by decide⟩, (mj_in1 (List.mem_of_getElem? (i := 1644) (by decide +kernel)) rfl), (mj_in1 (List.mem_of_getElem? (i := 1645) (by decide +kernel)) rfl)⟩
theorem d_TrustDeskLaw_law_408 : decode kY_TrustDeskLaw_law.2.1 408 = .ok (.if_icmp .eq 1105, 3) := by decide +kernel
theorem lw_case_4 {g : mj_G} {l : Launch} {d nx : Nat} {M : mj_M} (h_64 : M 64 = some (.inr (12, [.ref 65, .ref 70, .ref 77, .ref 80, .ref 90, .ref 94, .ref 95, .ref 96, .ref 97, .ref 98, .int 0, .int 0, .int 0]))) (h_70 : M 70 = some (.inr (9, [.int 0, .int 0, .int (-1), .ref 71, .ref 72, .ref 73, .ref 74, .ref 75, .int 0, .int 0, .int 0, .int 0, .int 0, .int 0, .int 0, .int 0, .int 0, .ref 76, .int 0]))) (h_94 : M 94 = some (.inr (0, [.int 0, .ref 0, .int 0]))) (h_99 : M 99 = some (.inr (13, [.int 0, .int 0, .int 0, .ref 100, .ref 101, .ref 102, .ref 103, .ref 104, .ref 105, .ref 106, .ref 107, .ref 108, .ref 109, .ref 110, .int 0, .int 0, .int 0, .int 0, .int 0, .int 0, .int 0, .int (-1), .int 0, .int 0, .int 0, .ref 111, .ref 112, .int 0, .ref 113, .ref 114, .ref 115, .int 0, .int 0, .ref 116, .ref 117, .ref 118, .ref 119, .ref 120, .ref 121, .ref 122, .ref 123, .ref 124, .ref 125, .ref 126, .ref 127, .ref 128, .ref 129, .ref 130, .ref 131, .int 0, .ref 132, .int 0, .ref 133, .int 0, .ref 134, .ref 135, .ref 136, .ref 137, .ref 138, .ref 139, .ref 140, .ref 141, .ref 142, .ref 143, .ref 144, .ref 145, .ref 146, .int 0, .long 0, .int 0, .int 0, .ref 147]))) (h_102 : M 102 = some (.inl (0, 45, .inl (fun _ => 0)))) (h_103 : M 103 = some (.inl (0, 45, .inl (fun _ => 0)))) (h_113 : M 113 = some (.inl (0, 20, .inl (fun _ => 0)))) (hL : mj_L g = 6) : mj_V g l kY_TrustDeskLaw_law (d + 9) 388 [(4, .int 0), (3, .ref 148), (2, .ref 99), (1, .ref 64), (0, .ref 50)] [] M 149 6 241 (fun r _ _ => r = some (.int 1)) := by
  refine mv_aload_n d_TrustDeskLaw_law_388 rfl rfl ?_
  refine mv_aload_n d_TrustDeskLaw_law_389 rfl rfl ?_
  refine mv_iload d_TrustDeskLaw_law_390 rfl ?_
  refine mv_iconst (v := 1) d_TrustDeskLaw_law_392 (by decide) ?_
  refine mv_iaddv (v := 1) d_TrustDeskLaw_law_393 (by decide) ?_
  refine mv_sld (v := (mj_xs g 1)) d_TrustDeskLaw_law_394 (by rw [hL]; unfold vp_in; decide) rfl ?_
  refine mv_callV (kc' := 1) (ks' := 197) (As := [.int (mj_xs g 1)]) (st9 := [.int (mj_xs g 1), .ref 64]) d_TrustDeskLaw_law_395 lV_TrustDeskLaw_39 h_64 rfl (c_TrustDesk_act_0 (d := (d + 3)) (x1 := (mj_xs g 1)) (h_64 := h_64) (h_70 := h_70) (h_94 := h_94)) rfl (Nat.le_of_ble_eq_true rfl) (Nat.le_of_ble_eq_true rfl) (Nat.le_of_ble_eq_true rfl) (hst := rfl) (fun b1r b1M b1n b1 => ?_)
  obtain ⟨rfl, b1⟩ := b1
  refine mv_aload_n d_TrustDeskLaw_law_398 rfl rfl ?_
  refine mv_aload_n d_TrustDeskLaw_law_399 rfl rfl ?_
  refine mv_iload d_TrustDeskLaw_law_400 rfl ?_
  refine mv_iconst (v := 1) d_TrustDeskLaw_law_402 (by decide) ?_
  refine mv_iaddv (v := 1) d_TrustDeskLaw_law_403 (by decide) ?_
  refine mv_sld (v := (mj_xs g 1)) d_TrustDeskLaw_law_404 (by rw [hL]; unfold vp_in; decide) rfl ?_
  refine mv_callV (kc' := 1) (ks' := 197) (As := [.int (mj_xs g 1)]) (st9 := [.int (mj_xs g 1), .ref 99, .int (e_act (mj_xs g 1))]) d_TrustDeskLaw_law_405 lV_TrustDeskLaw_42 ((b1 99 (by decide) (by decide)).trans h_99) rfl (c_TrustDeskModel_act_0 (d := (d + 6)) (x1 := (mj_xs g 1)) (h_99 := ((b1 99 (by decide) (by decide)).trans h_99)) (h_102 := ((b1 102 (by decide) (by decide)).trans h_102)) (h_103 := ((b1 103 (by decide) (by decide)).trans h_103)) (h_113 := ((b1 113 (by decide) (by decide)).trans h_113))) rfl (Nat.le_of_ble_eq_true rfl) (Nat.le_of_ble_eq_true rfl) (Nat.le_of_ble_eq_true rfl) (hst := rfl) (fun b2r b2M b2n b2 => ?_)
  obtain ⟨rfl, b2⟩ := b2
  refine mv_icmp_eq_t (tgt := 1513) d_TrustDeskLaw_law_408 (by decide) rfl ?_
  refine mv_iinc (v := 6) (lv' := [(4, .int 6), (3, .ref 148), (2, .ref 99), (1, .ref 64), (0, .ref 50)]) d_TrustDeskLaw_law_1513 rfl (by decide) (by decide) rfl ?_
  refine mv_goto (tgt := 23) d_TrustDeskLaw_law_1516 (by decide) ?_
  refine mv_iload d_TrustDeskLaw_law_23 rfl ?_
  refine mv_aload_n d_TrustDeskLaw_law_25 rfl rfl ?_
  refine mv_slen (v := 6) d_TrustDeskLaw_law_26 (by rw [hL]; rfl) ?_
  refine mv_bipush (v := 6) d_TrustDeskLaw_law_27 (by decide) ?_
  refine mv_isubv (v := 0) d_TrustDeskLaw_law_29 (by decide) ?_
  refine mv_icmp_gt_t (tgt := 1519) d_TrustDeskLaw_law_30 (by decide) (by decide) ?_
  refine mv_iconst (v := 1) d_TrustDeskLaw_law_1519 (by decide) ?_
  exact mv_iret d_TrustDeskLaw_law_1520 rfl (by first | rfl | decide) rfl
theorem d_TrustDeskLaw_law_413 : decode kY_TrustDeskLaw_law.2.1 413 = .ok (.aload_n 1, 1) := by decide +kernel
theorem d_TrustDeskLaw_law_414 : decode kY_TrustDeskLaw_law.2.1 414 = .ok (.aload_n 0, 1) := by decide +kernel
theorem d_TrustDeskLaw_law_415 : decode kY_TrustDeskLaw_law.2.1 415 = .ok (.iload 4, 2) := by decide +kernel
theorem d_TrustDeskLaw_law_417 : decode kY_TrustDeskLaw_law.2.1 417 = .ok (.iconst 1, 1) := by decide +kernel
theorem d_TrustDeskLaw_law_418 : decode kY_TrustDeskLaw_law.2.1 418 = .ok (.iadd, 1) := by decide +kernel
theorem d_TrustDeskLaw_law_419 : decode kY_TrustDeskLaw_law.2.1 419 = .ok (.iaload, 1) := by decide +kernel
theorem d_TrustDeskLaw_law_420 : decode kY_TrustDeskLaw_law.2.1 420 = .ok (.aload_n 0, 1) := by decide +kernel
theorem d_TrustDeskLaw_law_421 : decode kY_TrustDeskLaw_law.2.1 421 = .ok (.iload 4, 2) := by decide +kernel
theorem d_TrustDeskLaw_law_423 : decode kY_TrustDeskLaw_law.2.1 423 = .ok (.iconst 2, 1) := by decide +kernel
theorem d_TrustDeskLaw_law_424 : decode kY_TrustDeskLaw_law.2.1 424 = .ok (.iadd, 1) := by decide +kernel
theorem d_TrustDeskLaw_law_425 : decode kY_TrustDeskLaw_law.2.1 425 = .ok (.iaload, 1) := by decide +kernel
theorem d_TrustDeskLaw_law_426 : decode kY_TrustDeskLaw_law.2.1 426 = .ok (.invokevirtual 43, 3) := by decide +kernel
theorem lV_TrustDeskLaw_43 : mj_lV "TrustDeskLaw" 43 kY_TrustDesk_holds 2 := ⟨⟨(mj_in1 (List.mem_of_getElem? (i := 626) (by decide +kernel)) rfl), (mj_in1 (List.mem_of_getElem? (i := 1) (by decide +kernel)) rfl), (mj_in1 (List.mem_of_getElem? (i := 629) (by decide +kernel)) rfl), by decide, rfl, by decide⟩, (mj_in1 (List.mem_of_getElem? (i := 627) (by decide +kernel)) rfl), (mj_in1 (List.mem_of_getElem? (i := 628) (by decide +kernel)) rfl)⟩
theorem d_TrustDeskLaw_law_429 : decode kY_TrustDeskLaw_law.2.1 429 = .ok (.aload_n 2, 1) := by decide +kernel
theorem d_TrustDeskLaw_law_430 : decode kY_TrustDeskLaw_law.2.1 430 = .ok (.aload_n 0, 1) := by decide +kernel
theorem d_TrustDeskLaw_law_431 : decode kY_TrustDeskLaw_law.2.1 431 = .ok (.iload 4, 2) := by decide +kernel
theorem d_TrustDeskLaw_law_433 : decode kY_TrustDeskLaw_law.2.1 433 = .ok (.iconst 1, 1) := by decide +kernel
theorem d_TrustDeskLaw_law_434 : decode kY_TrustDeskLaw_law.2.1 434 = .ok (.iadd, 1) := by decide +kernel
theorem d_TrustDeskLaw_law_435 : decode kY_TrustDeskLaw_law.2.1 435 = .ok (.iaload, 1) := by decide +kernel
theorem d_TrustDeskLaw_law_436 : decode kY_TrustDeskLaw_law.2.1 436 = .ok (.aload_n 0, 1) := by decide +kernel
theorem d_TrustDeskLaw_law_437 : decode kY_TrustDeskLaw_law.2.1 437 = .ok (.iload 4, 2) := by decide +kernel
theorem d_TrustDeskLaw_law_439 : decode kY_TrustDeskLaw_law.2.1 439 = .ok (.iconst 2, 1) := by decide +kernel
theorem d_TrustDeskLaw_law_440 : decode kY_TrustDeskLaw_law.2.1 440 = .ok (.iadd, 1) := by decide +kernel
theorem d_TrustDeskLaw_law_441 : decode kY_TrustDeskLaw_law.2.1 441 = .ok (.iaload, 1) := by decide +kernel
theorem d_TrustDeskLaw_law_442 : decode kY_TrustDeskLaw_law.2.1 442 = .ok (.invokevirtual 46, 3) := by decide +kernel
theorem lV_TrustDeskLaw_46 : mj_lV "TrustDeskLaw" 46 kY_TrustDeskModel_holds 2 := ⟨⟨(mj_in1 (List.mem_of_getElem? (i := 1780) (by decide +kernel)) rfl), (mj_in1 (List.mem_of_getElem? (i := 10) (by decide +kernel)) rfl), (mj_in1 (List.mem_of_getElem? (i := 1783) (by decide +kernel)) rfl), by decide, rfl, by decide⟩, (mj_in1 (List.mem_of_getElem? (i := 1781) (by decide +kernel)) rfl), (mj_in1 (List.mem_of_getElem? (i := 1782) (by decide +kernel)) rfl)⟩
theorem d_TrustDeskLaw_law_445 : decode kY_TrustDeskLaw_law.2.1 445 = .ok (.if_icmp .eq 1068, 3) := by decide +kernel
theorem lw_case_5 {g : mj_G} {l : Launch} {d nx : Nat} {M : mj_M} (h_64 : M 64 = some (.inr (12, [.ref 65, .ref 70, .ref 77, .ref 80, .ref 90, .ref 94, .ref 95, .ref 96, .ref 97, .ref 98, .int 0, .int 0, .int 0]))) (h_90 : M 90 = some (.inr (1, [.int 0, .int 0, .ref 91, .ref 92, .ref 93]))) (h_92 : M 92 = some (.inl (0, 6, .inl mj_rwf))) (h_94 : M 94 = some (.inr (0, [.int 0, .ref 0, .int 0]))) (h_99 : M 99 = some (.inr (13, [.int 0, .int 0, .int 0, .ref 100, .ref 101, .ref 102, .ref 103, .ref 104, .ref 105, .ref 106, .ref 107, .ref 108, .ref 109, .ref 110, .int 0, .int 0, .int 0, .int 0, .int 0, .int 0, .int 0, .int (-1), .int 0, .int 0, .int 0, .ref 111, .ref 112, .int 0, .ref 113, .ref 114, .ref 115, .int 0, .int 0, .ref 116, .ref 117, .ref 118, .ref 119, .ref 120, .ref 121, .ref 122, .ref 123, .ref 124, .ref 125, .ref 126, .ref 127, .ref 128, .ref 129, .ref 130, .ref 131, .int 0, .ref 132, .int 0, .ref 133, .int 0, .ref 134, .ref 135, .ref 136, .ref 137, .ref 138, .ref 139, .ref 140, .ref 141, .ref 142, .ref 143, .ref 144, .ref 145, .ref 146, .int 0, .long 0, .int 0, .int 0, .ref 147]))) (hL : mj_L g = 6) : mj_V g l kY_TrustDeskLaw_law (d + 9) 413 [(4, .int 0), (3, .ref 148), (2, .ref 99), (1, .ref 64), (0, .ref 50)] [] M 149 6 241 (fun r _ _ => r = some (.int 1)) := by
  refine mv_aload_n d_TrustDeskLaw_law_413 rfl rfl ?_
  refine mv_aload_n d_TrustDeskLaw_law_414 rfl rfl ?_
  refine mv_iload d_TrustDeskLaw_law_415 rfl ?_
  refine mv_iconst (v := 1) d_TrustDeskLaw_law_417 (by decide) ?_
  refine mv_iaddv (v := 1) d_TrustDeskLaw_law_418 (by decide) ?_
  refine mv_sld (v := (mj_xs g 1)) d_TrustDeskLaw_law_419 (by rw [hL]; unfold vp_in; decide) rfl ?_
  refine mv_aload_n d_TrustDeskLaw_law_420 rfl rfl ?_
  refine mv_iload d_TrustDeskLaw_law_421 rfl ?_
  refine mv_iconst (v := 2) d_TrustDeskLaw_law_423 (by decide) ?_
  refine mv_iaddv (v := 2) d_TrustDeskLaw_law_424 (by decide) ?_
  refine mv_sld (v := (mj_xs g 2)) d_TrustDeskLaw_law_425 (by rw [hL]; unfold vp_in; decide) rfl ?_
  refine mv_callV (kc' := 6) (ks' := 241) (As := [.int (mj_xs g 1), .int (mj_xs g 2)]) (st9 := [.int (mj_xs g 2), .int (mj_xs g 1), .ref 64]) d_TrustDeskLaw_law_426 lV_TrustDeskLaw_43 h_64 rfl (c_TrustDesk_holds_0 (d := (d + 6)) (x1 := (mj_xs g 1)) (x2 := (mj_xs g 2)) (h_64 := h_64) (h_90 := h_90) (h_92 := h_92) (h_94 := h_94)) rfl (Nat.le_of_ble_eq_true rfl) (Nat.le_of_ble_eq_true rfl) (Nat.le_of_ble_eq_true rfl) (hst := rfl) (fun b1r b1M b1n b1 => ?_)
  obtain ⟨rfl, b1⟩ := b1
  refine mv_aload_n d_TrustDeskLaw_law_429 rfl rfl ?_
  refine mv_aload_n d_TrustDeskLaw_law_430 rfl rfl ?_
  refine mv_iload d_TrustDeskLaw_law_431 rfl ?_
  refine mv_iconst (v := 1) d_TrustDeskLaw_law_433 (by decide) ?_
  refine mv_iaddv (v := 1) d_TrustDeskLaw_law_434 (by decide) ?_
  refine mv_sld (v := (mj_xs g 1)) d_TrustDeskLaw_law_435 (by rw [hL]; unfold vp_in; decide) rfl ?_
  refine mv_aload_n d_TrustDeskLaw_law_436 rfl rfl ?_
  refine mv_iload d_TrustDeskLaw_law_437 rfl ?_
  refine mv_iconst (v := 2) d_TrustDeskLaw_law_439 (by decide) ?_
  refine mv_iaddv (v := 2) d_TrustDeskLaw_law_440 (by decide) ?_
  refine mv_sld (v := (mj_xs g 2)) d_TrustDeskLaw_law_441 (by rw [hL]; unfold vp_in; decide) rfl ?_
  refine mv_callV (kc' := 6) (ks' := 241) (As := [.int (mj_xs g 1), .int (mj_xs g 2)]) (st9 := [.int (mj_xs g 2), .int (mj_xs g 1), .ref 99, .int (e_holds (mj_xs g 1) (mj_xs g 2))]) d_TrustDeskLaw_law_442 lV_TrustDeskLaw_46 ((b1 99 (by decide) (by decide)).trans h_99) rfl (c_TrustDeskModel_holds_0 (d := (d + 6)) (x1 := (mj_xs g 1)) (x2 := (mj_xs g 2)) (h_99 := ((b1 99 (by decide) (by decide)).trans h_99))) rfl (Nat.le_of_ble_eq_true rfl) (Nat.le_of_ble_eq_true rfl) (Nat.le_of_ble_eq_true rfl) (hst := rfl) (fun b2r b2M b2n b2 => ?_)
  obtain ⟨rfl, b2⟩ := b2
  refine mv_icmp_eq_t (tgt := 1513) d_TrustDeskLaw_law_445 (by decide) rfl ?_
  refine mv_iinc (v := 6) (lv' := [(4, .int 6), (3, .ref 148), (2, .ref 99), (1, .ref 64), (0, .ref 50)]) d_TrustDeskLaw_law_1513 rfl (by decide) (by decide) rfl ?_
  refine mv_goto (tgt := 23) d_TrustDeskLaw_law_1516 (by decide) ?_
  refine mv_iload d_TrustDeskLaw_law_23 rfl ?_
  refine mv_aload_n d_TrustDeskLaw_law_25 rfl rfl ?_
  refine mv_slen (v := 6) d_TrustDeskLaw_law_26 (by rw [hL]; rfl) ?_
  refine mv_bipush (v := 6) d_TrustDeskLaw_law_27 (by decide) ?_
  refine mv_isubv (v := 0) d_TrustDeskLaw_law_29 (by decide) ?_
  refine mv_icmp_gt_t (tgt := 1519) d_TrustDeskLaw_law_30 (by decide) (by decide) ?_
  refine mv_iconst (v := 1) d_TrustDeskLaw_law_1519 (by decide) ?_
  exact mv_iret d_TrustDeskLaw_law_1520 rfl (by first | rfl | decide) rfl
theorem d_TrustDeskLaw_law_450 : decode kY_TrustDeskLaw_law.2.1 450 = .ok (.aload_n 1, 1) := by decide +kernel
theorem d_TrustDeskLaw_law_451 : decode kY_TrustDeskLaw_law.2.1 451 = .ok (.aload_n 0, 1) := by decide +kernel
theorem d_TrustDeskLaw_law_452 : decode kY_TrustDeskLaw_law.2.1 452 = .ok (.iload 4, 2) := by decide +kernel
theorem d_TrustDeskLaw_law_454 : decode kY_TrustDeskLaw_law.2.1 454 = .ok (.iconst 1, 1) := by decide +kernel
theorem d_TrustDeskLaw_law_455 : decode kY_TrustDeskLaw_law.2.1 455 = .ok (.iadd, 1) := by decide +kernel
theorem d_TrustDeskLaw_law_456 : decode kY_TrustDeskLaw_law.2.1 456 = .ok (.iaload, 1) := by decide +kernel
theorem d_TrustDeskLaw_law_457 : decode kY_TrustDeskLaw_law.2.1 457 = .ok (.aload_n 0, 1) := by decide +kernel
theorem d_TrustDeskLaw_law_458 : decode kY_TrustDeskLaw_law.2.1 458 = .ok (.iload 4, 2) := by decide +kernel
theorem d_TrustDeskLaw_law_460 : decode kY_TrustDeskLaw_law.2.1 460 = .ok (.iconst 2, 1) := by decide +kernel
theorem d_TrustDeskLaw_law_461 : decode kY_TrustDeskLaw_law.2.1 461 = .ok (.iadd, 1) := by decide +kernel
theorem d_TrustDeskLaw_law_462 : decode kY_TrustDeskLaw_law.2.1 462 = .ok (.iaload, 1) := by decide +kernel
theorem d_TrustDeskLaw_law_463 : decode kY_TrustDeskLaw_law.2.1 463 = .ok (.invokevirtual 47, 3) := by decide +kernel
theorem lV_TrustDeskLaw_47 : mj_lV "TrustDeskLaw" 47 kY_TrustDesk_fund 2 := ⟨⟨(mj_in1 (List.mem_of_getElem? (i := 650) (by decide +kernel)) rfl), (mj_in1 (List.mem_of_getElem? (i := 1) (by decide +kernel)) rfl), (mj_in1 (List.mem_of_getElem? (i := 653) (by decide +kernel)) rfl), by decide, rfl, by decide⟩, (mj_in1 (List.mem_of_getElem? (i := 651) (by decide +kernel)) rfl), (mj_in1 (List.mem_of_getElem? (i := 652) (by decide +kernel)) rfl)⟩
theorem d_TrustDeskLaw_law_466 : decode kY_TrustDeskLaw_law.2.1 466 = .ok (.aload_n 2, 1) := by decide +kernel
theorem d_TrustDeskLaw_law_467 : decode kY_TrustDeskLaw_law.2.1 467 = .ok (.aload_n 0, 1) := by decide +kernel
theorem d_TrustDeskLaw_law_468 : decode kY_TrustDeskLaw_law.2.1 468 = .ok (.iload 4, 2) := by decide +kernel
theorem d_TrustDeskLaw_law_470 : decode kY_TrustDeskLaw_law.2.1 470 = .ok (.iconst 1, 1) := by decide +kernel
theorem d_TrustDeskLaw_law_471 : decode kY_TrustDeskLaw_law.2.1 471 = .ok (.iadd, 1) := by decide +kernel
theorem d_TrustDeskLaw_law_472 : decode kY_TrustDeskLaw_law.2.1 472 = .ok (.iaload, 1) := by decide +kernel
theorem d_TrustDeskLaw_law_473 : decode kY_TrustDeskLaw_law.2.1 473 = .ok (.aload_n 0, 1) := by decide +kernel
theorem d_TrustDeskLaw_law_474 : decode kY_TrustDeskLaw_law.2.1 474 = .ok (.iload 4, 2) := by decide +kernel
theorem d_TrustDeskLaw_law_476 : decode kY_TrustDeskLaw_law.2.1 476 = .ok (.iconst 2, 1) := by decide +kernel
theorem d_TrustDeskLaw_law_477 : decode kY_TrustDeskLaw_law.2.1 477 = .ok (.iadd, 1) := by decide +kernel
theorem d_TrustDeskLaw_law_478 : decode kY_TrustDeskLaw_law.2.1 478 = .ok (.iaload, 1) := by decide +kernel
theorem d_TrustDeskLaw_law_479 : decode kY_TrustDeskLaw_law.2.1 479 = .ok (.invokevirtual 50, 3) := by decide +kernel
theorem lV_TrustDeskLaw_50 : mj_lV "TrustDeskLaw" 50 kY_TrustDeskModel_fund 2 := ⟨⟨(mj_in1 (List.mem_of_getElem? (i := 1793) (by decide +kernel)) rfl), (mj_in1 (List.mem_of_getElem? (i := 10) (by decide +kernel)) rfl), (mj_in1 (List.mem_of_getElem? (i := 1796) (by decide +kernel)) rfl), by decide, rfl, by decide⟩, (mj_in1 (List.mem_of_getElem? (i := 1794) (by decide +kernel)) rfl), (mj_in1 (List.mem_of_getElem? (i := 1795) (by decide +kernel)) rfl)⟩
theorem d_TrustDeskLaw_law_482 : decode kY_TrustDeskLaw_law.2.1 482 = .ok (.if_icmp .eq 1031, 3) := by decide +kernel
theorem lw_case_6 {g : mj_G} {l : Launch} {d nx : Nat} {M : mj_M} (h_64 : M 64 = some (.inr (12, [.ref 65, .ref 70, .ref 77, .ref 80, .ref 90, .ref 94, .ref 95, .ref 96, .ref 97, .ref 98, .int 0, .int 0, .int 0]))) (h_70 : M 70 = some (.inr (9, [.int 0, .int 0, .int (-1), .ref 71, .ref 72, .ref 73, .ref 74, .ref 75, .int 0, .int 0, .int 0, .int 0, .int 0, .int 0, .int 0, .int 0, .int 0, .ref 76, .int 0]))) (h_95 : M 95 = some (.inr (0, [.int 0, .ref 0, .int 0]))) (h_99 : M 99 = some (.inr (13, [.int 0, .int 0, .int 0, .ref 100, .ref 101, .ref 102, .ref 103, .ref 104, .ref 105, .ref 106, .ref 107, .ref 108, .ref 109, .ref 110, .int 0, .int 0, .int 0, .int 0, .int 0, .int 0, .int 0, .int (-1), .int 0, .int 0, .int 0, .ref 111, .ref 112, .int 0, .ref 113, .ref 114, .ref 115, .int 0, .int 0, .ref 116, .ref 117, .ref 118, .ref 119, .ref 120, .ref 121, .ref 122, .ref 123, .ref 124, .ref 125, .ref 126, .ref 127, .ref 128, .ref 129, .ref 130, .ref 131, .int 0, .ref 132, .int 0, .ref 133, .int 0, .ref 134, .ref 135, .ref 136, .ref 137, .ref 138, .ref 139, .ref 140, .ref 141, .ref 142, .ref 143, .ref 144, .ref 145, .ref 146, .int 0, .long 0, .int 0, .int 0, .ref 147]))) (h_102 : M 102 = some (.inl (0, 45, .inl (fun _ => 0)))) (h_103 : M 103 = some (.inl (0, 45, .inl (fun _ => 0)))) (h_116 : M 116 = some (.inl (0, 12, .inl (fun _ => 0)))) (h_117 : M 117 = some (.inl (0, 12, .inl (fun _ => 0)))) (h_118 : M 118 = some (.inl (1, 12, .inr (.inl (fun _ => 0))))) (h_119 : M 119 = some (.inl (0, 12, .inl (fun _ => 0)))) (h_120 : M 120 = some (.inl (0, 12, .inl (fun _ => 0)))) (h_121 : M 121 = some (.inl (0, 12, .inl (fun _ => 0)))) (h_122 : M 122 = some (.inl (0, 12, .inl (fun _ => 0)))) (h_124 : M 124 = some (.inl (0, 144, .inl (fun _ => 0)))) (hL : mj_L g = 6) : mj_V g l kY_TrustDeskLaw_law (d + 9) 450 [(4, .int 0), (3, .ref 148), (2, .ref 99), (1, .ref 64), (0, .ref 50)] [] M 149 6 241 (fun r _ _ => r = some (.int 1)) := by
  refine mv_aload_n d_TrustDeskLaw_law_450 rfl rfl ?_
  refine mv_aload_n d_TrustDeskLaw_law_451 rfl rfl ?_
  refine mv_iload d_TrustDeskLaw_law_452 rfl ?_
  refine mv_iconst (v := 1) d_TrustDeskLaw_law_454 (by decide) ?_
  refine mv_iaddv (v := 1) d_TrustDeskLaw_law_455 (by decide) ?_
  refine mv_sld (v := (mj_xs g 1)) d_TrustDeskLaw_law_456 (by rw [hL]; unfold vp_in; decide) rfl ?_
  refine mv_aload_n d_TrustDeskLaw_law_457 rfl rfl ?_
  refine mv_iload d_TrustDeskLaw_law_458 rfl ?_
  refine mv_iconst (v := 2) d_TrustDeskLaw_law_460 (by decide) ?_
  refine mv_iaddv (v := 2) d_TrustDeskLaw_law_461 (by decide) ?_
  refine mv_sld (v := (mj_xs g 2)) d_TrustDeskLaw_law_462 (by rw [hL]; unfold vp_in; decide) rfl ?_
  refine mv_callV (kc' := 0) (ks' := 0) (As := [.int (mj_xs g 1), .int (mj_xs g 2)]) (st9 := [.int (mj_xs g 2), .int (mj_xs g 1), .ref 64]) d_TrustDeskLaw_law_463 lV_TrustDeskLaw_47 h_64 rfl (c_TrustDesk_fund_0 (d := (d + 3)) (x1 := (mj_xs g 1)) (x2 := (mj_xs g 2)) (h_64 := h_64) (h_70 := h_70) (h_95 := h_95)) rfl (Nat.le_of_ble_eq_true rfl) (Nat.le_of_ble_eq_true rfl) (Nat.le_of_ble_eq_true rfl) (hst := rfl) (fun b1r b1M b1n b1 => ?_)
  obtain ⟨rfl, b1⟩ := b1
  refine mv_aload_n d_TrustDeskLaw_law_466 rfl rfl ?_
  refine mv_aload_n d_TrustDeskLaw_law_467 rfl rfl ?_
  refine mv_iload d_TrustDeskLaw_law_468 rfl ?_
  refine mv_iconst (v := 1) d_TrustDeskLaw_law_470 (by decide) ?_
  refine mv_iaddv (v := 1) d_TrustDeskLaw_law_471 (by decide) ?_
  refine mv_sld (v := (mj_xs g 1)) d_TrustDeskLaw_law_472 (by rw [hL]; unfold vp_in; decide) rfl ?_
  refine mv_aload_n d_TrustDeskLaw_law_473 rfl rfl ?_
  refine mv_iload d_TrustDeskLaw_law_474 rfl ?_
  refine mv_iconst (v := 2) d_TrustDeskLaw_law_476 (by decide) ?_
  refine mv_iaddv (v := 2) d_TrustDeskLaw_law_477 (by decide) ?_
  refine mv_sld (v := (mj_xs g 2)) d_TrustDeskLaw_law_478 (by rw [hL]; unfold vp_in; decide) rfl ?_
  refine mv_callV (kc' := 0) (ks' := 0) (As := [.int (mj_xs g 1), .int (mj_xs g 2)]) (st9 := [.int (mj_xs g 2), .int (mj_xs g 1), .ref 99, .int (e_fund (mj_xs g 1) (mj_xs g 2))]) d_TrustDeskLaw_law_479 lV_TrustDeskLaw_50 ((b1 99 (by decide) (by decide)).trans h_99) rfl (c_TrustDeskModel_fund_0 (d := (d + 6)) (x1 := (mj_xs g 1)) (x2 := (mj_xs g 2)) (h_99 := ((b1 99 (by decide) (by decide)).trans h_99)) (h_102 := ((b1 102 (by decide) (by decide)).trans h_102)) (h_103 := ((b1 103 (by decide) (by decide)).trans h_103)) (h_116 := ((b1 116 (by decide) (by decide)).trans h_116)) (h_117 := ((b1 117 (by decide) (by decide)).trans h_117)) (h_118 := ((b1 118 (by decide) (by decide)).trans h_118)) (h_119 := ((b1 119 (by decide) (by decide)).trans h_119)) (h_120 := ((b1 120 (by decide) (by decide)).trans h_120)) (h_121 := ((b1 121 (by decide) (by decide)).trans h_121)) (h_122 := ((b1 122 (by decide) (by decide)).trans h_122)) (h_124 := ((b1 124 (by decide) (by decide)).trans h_124))) rfl (Nat.le_of_ble_eq_true rfl) (Nat.le_of_ble_eq_true rfl) (Nat.le_of_ble_eq_true rfl) (hst := rfl) (fun b2r b2M b2n b2 => ?_)
  obtain ⟨rfl, b2⟩ := b2
  refine mv_icmp_eq_t (tgt := 1513) d_TrustDeskLaw_law_482 (by decide) rfl ?_
  refine mv_iinc (v := 6) (lv' := [(4, .int 6), (3, .ref 148), (2, .ref 99), (1, .ref 64), (0, .ref 50)]) d_TrustDeskLaw_law_1513 rfl (by decide) (by decide) rfl ?_
  refine mv_goto (tgt := 23) d_TrustDeskLaw_law_1516 (by decide) ?_
  refine mv_iload d_TrustDeskLaw_law_23 rfl ?_
  refine mv_aload_n d_TrustDeskLaw_law_25 rfl rfl ?_
  refine mv_slen (v := 6) d_TrustDeskLaw_law_26 (by rw [hL]; rfl) ?_
  refine mv_bipush (v := 6) d_TrustDeskLaw_law_27 (by decide) ?_
  refine mv_isubv (v := 0) d_TrustDeskLaw_law_29 (by decide) ?_
  refine mv_icmp_gt_t (tgt := 1519) d_TrustDeskLaw_law_30 (by decide) (by decide) ?_
  refine mv_iconst (v := 1) d_TrustDeskLaw_law_1519 (by decide) ?_
  exact mv_iret d_TrustDeskLaw_law_1520 rfl (by first | rfl | decide) rfl
theorem d_TrustDeskLaw_law_487 : decode kY_TrustDeskLaw_law.2.1 487 = .ok (.aload_n 1, 1) := by decide +kernel
theorem d_TrustDeskLaw_law_488 : decode kY_TrustDeskLaw_law.2.1 488 = .ok (.aload_n 0, 1) := by decide +kernel
theorem d_TrustDeskLaw_law_489 : decode kY_TrustDeskLaw_law.2.1 489 = .ok (.iload 4, 2) := by decide +kernel
theorem d_TrustDeskLaw_law_491 : decode kY_TrustDeskLaw_law.2.1 491 = .ok (.iconst 1, 1) := by decide +kernel
theorem d_TrustDeskLaw_law_492 : decode kY_TrustDeskLaw_law.2.1 492 = .ok (.iadd, 1) := by decide +kernel
theorem d_TrustDeskLaw_law_493 : decode kY_TrustDeskLaw_law.2.1 493 = .ok (.iaload, 1) := by decide +kernel
theorem d_TrustDeskLaw_law_494 : decode kY_TrustDeskLaw_law.2.1 494 = .ok (.invokevirtual 51, 3) := by decide +kernel
theorem lV_TrustDeskLaw_51 : mj_lV "TrustDeskLaw" 51 kY_TrustDesk_near 1 := ⟨⟨(mj_in1 (List.mem_of_getElem? (i := 813) (by decide +kernel)) rfl), (mj_in1 (List.mem_of_getElem? (i := 1) (by decide +kernel)) rfl), (mj_in1 (List.mem_of_getElem? (i := 816) (by decide +kernel)) rfl), by decide, rfl, by decide⟩, (mj_in1 (List.mem_of_getElem? (i := 814) (by decide +kernel)) rfl), (mj_in1 (List.mem_of_getElem? (i := 815) (by decide +kernel)) rfl)⟩
theorem d_TrustDeskLaw_law_497 : decode kY_TrustDeskLaw_law.2.1 497 = .ok (.aload_n 2, 1) := by decide +kernel
theorem d_TrustDeskLaw_law_498 : decode kY_TrustDeskLaw_law.2.1 498 = .ok (.aload_n 0, 1) := by decide +kernel
theorem d_TrustDeskLaw_law_499 : decode kY_TrustDeskLaw_law.2.1 499 = .ok (.iload 4, 2) := by decide +kernel
theorem d_TrustDeskLaw_law_501 : decode kY_TrustDeskLaw_law.2.1 501 = .ok (.iconst 1, 1) := by decide +kernel
theorem d_TrustDeskLaw_law_502 : decode kY_TrustDeskLaw_law.2.1 502 = .ok (.iadd, 1) := by decide +kernel
theorem d_TrustDeskLaw_law_503 : decode kY_TrustDeskLaw_law.2.1 503 = .ok (.iaload, 1) := by decide +kernel
theorem d_TrustDeskLaw_law_504 : decode kY_TrustDeskLaw_law.2.1 504 = .ok (.invokevirtual 54, 3) := by decide +kernel
theorem lV_TrustDeskLaw_54 : mj_lV "TrustDeskLaw" 54 kY_TrustDeskModel_near 1 := ⟨⟨(mj_in1 (List.mem_of_getElem? (i := 1825) (by decide +kernel)) rfl), (mj_in1 (List.mem_of_getElem? (i := 10) (by decide +kernel)) rfl), (mj_in1 (List.mem_of_getElem? (i := 1828) (by decide +kernel)) rfl), by decide, rfl, by decide⟩, (mj_in1 (List.mem_of_getElem? (i := 1826) (by decide +kernel)) rfl), (mj_in1 (List.mem_of_getElem? (i := 1827) (by decide +kernel)) rfl)⟩
theorem d_TrustDeskLaw_law_507 : decode kY_TrustDeskLaw_law.2.1 507 = .ok (.if_icmp .eq 1006, 3) := by decide +kernel
theorem lw_case_7 {g : mj_G} {l : Launch} {d nx : Nat} {M : mj_M} (h_64 : M 64 = some (.inr (12, [.ref 65, .ref 70, .ref 77, .ref 80, .ref 90, .ref 94, .ref 95, .ref 96, .ref 97, .ref 98, .int 0, .int 0, .int 0]))) (h_70 : M 70 = some (.inr (9, [.int 0, .int 0, .int (-1), .ref 71, .ref 72, .ref 73, .ref 74, .ref 75, .int 0, .int 0, .int 0, .int 0, .int 0, .int 0, .int 0, .int 0, .int 0, .ref 76, .int 0]))) (h_96 : M 96 = some (.inr (0, [.int 0, .ref 0, .int 0]))) (h_99 : M 99 = some (.inr (13, [.int 0, .int 0, .int 0, .ref 100, .ref 101, .ref 102, .ref 103, .ref 104, .ref 105, .ref 106, .ref 107, .ref 108, .ref 109, .ref 110, .int 0, .int 0, .int 0, .int 0, .int 0, .int 0, .int 0, .int (-1), .int 0, .int 0, .int 0, .ref 111, .ref 112, .int 0, .ref 113, .ref 114, .ref 115, .int 0, .int 0, .ref 116, .ref 117, .ref 118, .ref 119, .ref 120, .ref 121, .ref 122, .ref 123, .ref 124, .ref 125, .ref 126, .ref 127, .ref 128, .ref 129, .ref 130, .ref 131, .int 0, .ref 132, .int 0, .ref 133, .int 0, .ref 134, .ref 135, .ref 136, .ref 137, .ref 138, .ref 139, .ref 140, .ref 141, .ref 142, .ref 143, .ref 144, .ref 145, .ref 146, .int 0, .long 0, .int 0, .int 0, .ref 147]))) (h_102 : M 102 = some (.inl (0, 45, .inl (fun _ => 0)))) (h_103 : M 103 = some (.inl (0, 45, .inl (fun _ => 0)))) (hL : mj_L g = 6) : mj_V g l kY_TrustDeskLaw_law (d + 9) 487 [(4, .int 0), (3, .ref 148), (2, .ref 99), (1, .ref 64), (0, .ref 50)] [] M 149 6 241 (fun r _ _ => r = some (.int 1)) := by
  refine mv_aload_n d_TrustDeskLaw_law_487 rfl rfl ?_
  refine mv_aload_n d_TrustDeskLaw_law_488 rfl rfl ?_
  refine mv_iload d_TrustDeskLaw_law_489 rfl ?_
  refine mv_iconst (v := 1) d_TrustDeskLaw_law_491 (by decide) ?_
  refine mv_iaddv (v := 1) d_TrustDeskLaw_law_492 (by decide) ?_
  refine mv_sld (v := (mj_xs g 1)) d_TrustDeskLaw_law_493 (by rw [hL]; unfold vp_in; decide) rfl ?_
  refine mv_callV (kc' := 6) (ks' := 241) (As := [.int (mj_xs g 1)]) (st9 := [.int (mj_xs g 1), .ref 64]) d_TrustDeskLaw_law_494 lV_TrustDeskLaw_51 h_64 rfl (c_TrustDesk_near_0 (d := (d + 5)) (x1 := (mj_xs g 1)) (h_64 := h_64) (h_70 := h_70) (h_96 := h_96)) rfl (Nat.le_of_ble_eq_true rfl) (Nat.le_of_ble_eq_true rfl) (Nat.le_of_ble_eq_true rfl) (hst := rfl) (fun b1r b1M b1n b1 => ?_)
  obtain ⟨rfl, b1⟩ := b1
  refine mv_aload_n d_TrustDeskLaw_law_497 rfl rfl ?_
  refine mv_aload_n d_TrustDeskLaw_law_498 rfl rfl ?_
  refine mv_iload d_TrustDeskLaw_law_499 rfl ?_
  refine mv_iconst (v := 1) d_TrustDeskLaw_law_501 (by decide) ?_
  refine mv_iaddv (v := 1) d_TrustDeskLaw_law_502 (by decide) ?_
  refine mv_sld (v := (mj_xs g 1)) d_TrustDeskLaw_law_503 (by rw [hL]; unfold vp_in; decide) rfl ?_
  refine mv_callV (kc' := 6) (ks' := 241) (As := [.int (mj_xs g 1)]) (st9 := [.int (mj_xs g 1), .ref 99, .int (e_near (mj_xs g 1))]) d_TrustDeskLaw_law_504 lV_TrustDeskLaw_54 ((b1 99 (by decide) (by decide)).trans h_99) rfl (c_TrustDeskModel_near_0 (d := (d + 6)) (x1 := (mj_xs g 1)) (h_99 := ((b1 99 (by decide) (by decide)).trans h_99)) (h_102 := ((b1 102 (by decide) (by decide)).trans h_102)) (h_103 := ((b1 103 (by decide) (by decide)).trans h_103))) rfl (Nat.le_of_ble_eq_true rfl) (Nat.le_of_ble_eq_true rfl) (Nat.le_of_ble_eq_true rfl) (hst := rfl) (fun b2r b2M b2n b2 => ?_)
  obtain ⟨rfl, b2⟩ := b2
  refine mv_icmp_eq_t (tgt := 1513) d_TrustDeskLaw_law_507 (by decide) rfl ?_
  refine mv_iinc (v := 6) (lv' := [(4, .int 6), (3, .ref 148), (2, .ref 99), (1, .ref 64), (0, .ref 50)]) d_TrustDeskLaw_law_1513 rfl (by decide) (by decide) rfl ?_
  refine mv_goto (tgt := 23) d_TrustDeskLaw_law_1516 (by decide) ?_
  refine mv_iload d_TrustDeskLaw_law_23 rfl ?_
  refine mv_aload_n d_TrustDeskLaw_law_25 rfl rfl ?_
  refine mv_slen (v := 6) d_TrustDeskLaw_law_26 (by rw [hL]; rfl) ?_
  refine mv_bipush (v := 6) d_TrustDeskLaw_law_27 (by decide) ?_
  refine mv_isubv (v := 0) d_TrustDeskLaw_law_29 (by decide) ?_
  refine mv_icmp_gt_t (tgt := 1519) d_TrustDeskLaw_law_30 (by decide) (by decide) ?_
  refine mv_iconst (v := 1) d_TrustDeskLaw_law_1519 (by decide) ?_
  exact mv_iret d_TrustDeskLaw_law_1520 rfl (by first | rfl | decide) rfl
theorem d_TrustDeskLaw_law_512 : decode kY_TrustDeskLaw_law.2.1 512 = .ok (.aload_n 1, 1) := by decide +kernel
theorem d_TrustDeskLaw_law_513 : decode kY_TrustDeskLaw_law.2.1 513 = .ok (.invokevirtual 55, 3) := by decide +kernel
theorem lV_TrustDeskLaw_55 : mj_lV "TrustDeskLaw" 55 kY_TrustDesk_place 0 := ⟨⟨(mj_in1 (List.mem_of_getElem? (i := 836) (by decide +kernel)) rfl), (mj_in1 (List.mem_of_getElem? (i := 1) (by decide +kernel)) rfl), (mj_in1 (List.mem_of_getElem? (i := 839) (by decide +kernel)) rfl), by decide, rfl, by decide⟩, (mj_in1 (List.mem_of_getElem? (i := 837) (by decide +kernel)) rfl), (mj_in1 (List.mem_of_getElem? (i := 838) (by decide +kernel)) rfl)⟩
theorem d_TrustDeskLaw_law_516 : decode kY_TrustDeskLaw_law.2.1 516 = .ok (.aload_n 2, 1) := by decide +kernel
theorem d_TrustDeskLaw_law_517 : decode kY_TrustDeskLaw_law.2.1 517 = .ok (.invokevirtual 59, 3) := by decide +kernel
theorem lV_TrustDeskLaw_59 : mj_lV "TrustDeskLaw" 59 kY_TrustDeskModel_place 0 := ⟨⟨(mj_in1 (List.mem_of_getElem? (i := 1639) (by decide +kernel)) rfl), (mj_in1 (List.mem_of_getElem? (i := 10) (by decide +kernel)) rfl), (mj_in1 (List.mem_of_getElem? (i := 1642) (by decide +kernel)) rfl), by decide, rfl, by decide⟩, (mj_in1 (List.mem_of_getElem? (i := 1640) (by decide +kernel)) rfl), (mj_in1 (List.mem_of_getElem? (i := 1641) (by decide +kernel)) rfl)⟩
theorem d_TrustDeskLaw_law_520 : decode kY_TrustDeskLaw_law.2.1 520 = .ok (.if_icmp .eq 993, 3) := by decide +kernel
theorem lw_case_8 {g : mj_G} {l : Launch} {d nx : Nat} {M : mj_M} (h_64 : M 64 = some (.inr (12, [.ref 65, .ref 70, .ref 77, .ref 80, .ref 90, .ref 94, .ref 95, .ref 96, .ref 97, .ref 98, .int 0, .int 0, .int 0]))) (h_70 : M 70 = some (.inr (9, [.int 0, .int 0, .int (-1), .ref 71, .ref 72, .ref 73, .ref 74, .ref 75, .int 0, .int 0, .int 0, .int 0, .int 0, .int 0, .int 0, .int 0, .int 0, .ref 76, .int 0]))) (h_99 : M 99 = some (.inr (13, [.int 0, .int 0, .int 0, .ref 100, .ref 101, .ref 102, .ref 103, .ref 104, .ref 105, .ref 106, .ref 107, .ref 108, .ref 109, .ref 110, .int 0, .int 0, .int 0, .int 0, .int 0, .int 0, .int 0, .int (-1), .int 0, .int 0, .int 0, .ref 111, .ref 112, .int 0, .ref 113, .ref 114, .ref 115, .int 0, .int 0, .ref 116, .ref 117, .ref 118, .ref 119, .ref 120, .ref 121, .ref 122, .ref 123, .ref 124, .ref 125, .ref 126, .ref 127, .ref 128, .ref 129, .ref 130, .ref 131, .int 0, .ref 132, .int 0, .ref 133, .int 0, .ref 134, .ref 135, .ref 136, .ref 137, .ref 138, .ref 139, .ref 140, .ref 141, .ref 142, .ref 143, .ref 144, .ref 145, .ref 146, .int 0, .long 0, .int 0, .int 0, .ref 147]))) (hL : mj_L g = 6) : mj_V g l kY_TrustDeskLaw_law (d + 9) 512 [(4, .int 0), (3, .ref 148), (2, .ref 99), (1, .ref 64), (0, .ref 50)] [] M 149 6 241 (fun r _ _ => r = some (.int 1)) := by
  refine mv_aload_n d_TrustDeskLaw_law_512 rfl rfl ?_
  refine mv_callV_s (kc' := 6) (ks' := 241) [] [.ref 64] d_TrustDeskLaw_law_513 lV_TrustDeskLaw_55 h_64 rfl (c_TrustDesk_place_0 (d := (d + 8)) (h_64 := h_64) (h_70 := h_70)) rfl (Nat.le_of_ble_eq_true rfl) (Nat.le_of_ble_eq_true rfl) (Nat.le_of_ble_eq_true rfl) rfl ?_
  refine mv_aload_n d_TrustDeskLaw_law_516 rfl rfl ?_
  refine mv_callV_s (kc' := 6) (ks' := 241) [] [.ref 99, .int (-1)] d_TrustDeskLaw_law_517 lV_TrustDeskLaw_59 h_99 rfl (c_TrustDeskModel_place_0 (d := (d + 8)) (h_99 := h_99)) rfl (Nat.le_of_ble_eq_true rfl) (Nat.le_of_ble_eq_true rfl) (Nat.le_of_ble_eq_true rfl) rfl ?_
  refine mv_icmp_eq_t (tgt := 1513) d_TrustDeskLaw_law_520 (by decide) (by decide) ?_
  refine mv_iinc (v := 6) (lv' := [(4, .int 6), (3, .ref 148), (2, .ref 99), (1, .ref 64), (0, .ref 50)]) d_TrustDeskLaw_law_1513 rfl (by decide) (by decide) rfl ?_
  refine mv_goto (tgt := 23) d_TrustDeskLaw_law_1516 (by decide) ?_
  refine mv_iload d_TrustDeskLaw_law_23 rfl ?_
  refine mv_aload_n d_TrustDeskLaw_law_25 rfl rfl ?_
  refine mv_slen (v := 6) d_TrustDeskLaw_law_26 (by rw [hL]; rfl) ?_
  refine mv_bipush (v := 6) d_TrustDeskLaw_law_27 (by decide) ?_
  refine mv_isubv (v := 0) d_TrustDeskLaw_law_29 (by decide) ?_
  refine mv_icmp_gt_t (tgt := 1519) d_TrustDeskLaw_law_30 (by decide) (by decide) ?_
  refine mv_iconst (v := 1) d_TrustDeskLaw_law_1519 (by decide) ?_
  exact mv_iret d_TrustDeskLaw_law_1520 rfl (by first | rfl | decide) rfl
theorem d_TrustDeskLaw_law_525 : decode kY_TrustDeskLaw_law.2.1 525 = .ok (.aload_n 1, 1) := by decide +kernel
theorem d_TrustDeskLaw_law_526 : decode kY_TrustDeskLaw_law.2.1 526 = .ok (.aload_n 0, 1) := by decide +kernel
theorem d_TrustDeskLaw_law_527 : decode kY_TrustDeskLaw_law.2.1 527 = .ok (.iload 4, 2) := by decide +kernel
theorem d_TrustDeskLaw_law_529 : decode kY_TrustDeskLaw_law.2.1 529 = .ok (.iconst 1, 1) := by decide +kernel
theorem d_TrustDeskLaw_law_530 : decode kY_TrustDeskLaw_law.2.1 530 = .ok (.iadd, 1) := by decide +kernel
theorem d_TrustDeskLaw_law_531 : decode kY_TrustDeskLaw_law.2.1 531 = .ok (.iaload, 1) := by decide +kernel
theorem d_TrustDeskLaw_law_532 : decode kY_TrustDeskLaw_law.2.1 532 = .ok (.invokevirtual 60, 3) := by decide +kernel
theorem lV_TrustDeskLaw_60 : mj_lV "TrustDeskLaw" 60 kY_TrustDesk_days 1 := ⟨⟨(mj_in1 (List.mem_of_getElem? (i := 840) (by decide +kernel)) rfl), (mj_in1 (List.mem_of_getElem? (i := 1) (by decide +kernel)) rfl), (mj_in1 (List.mem_of_getElem? (i := 843) (by decide +kernel)) rfl), by decide, rfl, by decide⟩, (mj_in1 (List.mem_of_getElem? (i := 841) (by decide +kernel)) rfl), (mj_in1 (List.mem_of_getElem? (i := 842) (by decide +kernel)) rfl)⟩
theorem d_TrustDeskLaw_law_535 : decode kY_TrustDeskLaw_law.2.1 535 = .ok (.aload_n 2, 1) := by decide +kernel
theorem d_TrustDeskLaw_law_536 : decode kY_TrustDeskLaw_law.2.1 536 = .ok (.aload_n 0, 1) := by decide +kernel
theorem d_TrustDeskLaw_law_537 : decode kY_TrustDeskLaw_law.2.1 537 = .ok (.iload 4, 2) := by decide +kernel
theorem d_TrustDeskLaw_law_539 : decode kY_TrustDeskLaw_law.2.1 539 = .ok (.iconst 1, 1) := by decide +kernel
theorem d_TrustDeskLaw_law_540 : decode kY_TrustDeskLaw_law.2.1 540 = .ok (.iadd, 1) := by decide +kernel
theorem d_TrustDeskLaw_law_541 : decode kY_TrustDeskLaw_law.2.1 541 = .ok (.iaload, 1) := by decide +kernel
theorem d_TrustDeskLaw_law_542 : decode kY_TrustDeskLaw_law.2.1 542 = .ok (.invokevirtual 63, 3) := by decide +kernel
theorem lV_TrustDeskLaw_63 : mj_lV "TrustDeskLaw" 63 kY_TrustDeskModel_days 1 := ⟨⟨(mj_in1 (List.mem_of_getElem? (i := 1880) (by decide +kernel)) rfl), (mj_in1 (List.mem_of_getElem? (i := 10) (by decide +kernel)) rfl), (mj_in1 (List.mem_of_getElem? (i := 1883) (by decide +kernel)) rfl), by decide, rfl, by decide⟩, (mj_in1 (List.mem_of_getElem? (i := 1881) (by decide +kernel)) rfl), (mj_in1 (List.mem_of_getElem? (i := 1882) (by decide +kernel)) rfl)⟩
theorem d_TrustDeskLaw_law_545 : decode kY_TrustDeskLaw_law.2.1 545 = .ok (.if_icmp .eq 968, 3) := by decide +kernel
theorem lw_case_9 {g : mj_G} {l : Launch} {d nx : Nat} {M : mj_M} (h_64 : M 64 = some (.inr (12, [.ref 65, .ref 70, .ref 77, .ref 80, .ref 90, .ref 94, .ref 95, .ref 96, .ref 97, .ref 98, .int 0, .int 0, .int 0]))) (h_65 : M 65 = some (.inr (5, [.ref 66, .ref 67, .ref 68, .ref 69, .int 0]))) (h_77 : M 77 = some (.inr (10, [.ref 78, .int (-1), .ref 79, .int 0, .int 0]))) (h_78 : M 78 = some (.inl (1, 13, .inr (.inl (fun _ => 0))))) (h_94 : M 94 = some (.inr (0, [.int 0, .ref 0, .int 0]))) (h_95 : M 95 = some (.inr (0, [.int 0, .ref 0, .int 0]))) (h_99 : M 99 = some (.inr (13, [.int 0, .int 0, .int 0, .ref 100, .ref 101, .ref 102, .ref 103, .ref 104, .ref 105, .ref 106, .ref 107, .ref 108, .ref 109, .ref 110, .int 0, .int 0, .int 0, .int 0, .int 0, .int 0, .int 0, .int (-1), .int 0, .int 0, .int 0, .ref 111, .ref 112, .int 0, .ref 113, .ref 114, .ref 115, .int 0, .int 0, .ref 116, .ref 117, .ref 118, .ref 119, .ref 120, .ref 121, .ref 122, .ref 123, .ref 124, .ref 125, .ref 126, .ref 127, .ref 128, .ref 129, .ref 130, .ref 131, .int 0, .ref 132, .int 0, .ref 133, .int 0, .ref 134, .ref 135, .ref 136, .ref 137, .ref 138, .ref 139, .ref 140, .ref 141, .ref 142, .ref 143, .ref 144, .ref 145, .ref 146, .int 0, .long 0, .int 0, .int 0, .ref 147]))) (hL : mj_L g = 6) : mj_V g l kY_TrustDeskLaw_law (d + 9) 525 [(4, .int 0), (3, .ref 148), (2, .ref 99), (1, .ref 64), (0, .ref 50)] [] M 149 6 241 (fun r _ _ => r = some (.int 1)) := by
  refine mv_aload_n d_TrustDeskLaw_law_525 rfl rfl ?_
  refine mv_aload_n d_TrustDeskLaw_law_526 rfl rfl ?_
  refine mv_iload d_TrustDeskLaw_law_527 rfl ?_
  refine mv_iconst (v := 1) d_TrustDeskLaw_law_529 (by decide) ?_
  refine mv_iaddv (v := 1) d_TrustDeskLaw_law_530 (by decide) ?_
  refine mv_sld (v := (mj_xs g 1)) d_TrustDeskLaw_law_531 (by rw [hL]; unfold vp_in; decide) rfl ?_
  refine mv_callV (kc' := 6) (ks' := 241) (As := [.int (mj_xs g 1)]) (st9 := [.int (mj_xs g 1), .ref 64]) d_TrustDeskLaw_law_532 lV_TrustDeskLaw_60 h_64 rfl (c_TrustDesk_days_0 (d := (d + 5)) (x1 := (mj_xs g 1)) (h_64 := h_64) (h_65 := h_65) (h_77 := h_77) (h_78 := h_78) (h_94 := h_94) (h_95 := h_95)) rfl (Nat.le_of_ble_eq_true rfl) (Nat.le_of_ble_eq_true rfl) (Nat.le_of_ble_eq_true rfl) (hst := rfl) (fun b1r b1M b1n b1 => ?_)
  obtain ⟨rfl, b1⟩ := b1
  refine mv_aload_n d_TrustDeskLaw_law_535 rfl rfl ?_
  refine mv_aload_n d_TrustDeskLaw_law_536 rfl rfl ?_
  refine mv_iload d_TrustDeskLaw_law_537 rfl ?_
  refine mv_iconst (v := 1) d_TrustDeskLaw_law_539 (by decide) ?_
  refine mv_iaddv (v := 1) d_TrustDeskLaw_law_540 (by decide) ?_
  refine mv_sld (v := (mj_xs g 1)) d_TrustDeskLaw_law_541 (by rw [hL]; unfold vp_in; decide) rfl ?_
  refine mv_callV (kc' := 6) (ks' := 241) (As := [.int (mj_xs g 1)]) (st9 := [.int (mj_xs g 1), .ref 99, .int (e_days (mj_xs g 1))]) d_TrustDeskLaw_law_542 lV_TrustDeskLaw_63 ((b1 99 (by decide) (by decide)).trans h_99) rfl (c_TrustDeskModel_days_0 (d := (d + 7)) (x1 := (mj_xs g 1)) (h_99 := ((b1 99 (by decide) (by decide)).trans h_99))) rfl (Nat.le_of_ble_eq_true rfl) (Nat.le_of_ble_eq_true rfl) (Nat.le_of_ble_eq_true rfl) (hst := rfl) (fun b2r b2M b2n b2 => ?_)
  obtain ⟨rfl, b2⟩ := b2
  refine mv_icmp_eq_t (tgt := 1513) d_TrustDeskLaw_law_545 (by decide) rfl ?_
  refine mv_iinc (v := 6) (lv' := [(4, .int 6), (3, .ref 148), (2, .ref 99), (1, .ref 64), (0, .ref 50)]) d_TrustDeskLaw_law_1513 rfl (by decide) (by decide) rfl ?_
  refine mv_goto (tgt := 23) d_TrustDeskLaw_law_1516 (by decide) ?_
  refine mv_iload d_TrustDeskLaw_law_23 rfl ?_
  refine mv_aload_n d_TrustDeskLaw_law_25 rfl rfl ?_
  refine mv_slen (v := 6) d_TrustDeskLaw_law_26 (by rw [hL]; rfl) ?_
  refine mv_bipush (v := 6) d_TrustDeskLaw_law_27 (by decide) ?_
  refine mv_isubv (v := 0) d_TrustDeskLaw_law_29 (by decide) ?_
  refine mv_icmp_gt_t (tgt := 1519) d_TrustDeskLaw_law_30 (by decide) (by decide) ?_
  refine mv_iconst (v := 1) d_TrustDeskLaw_law_1519 (by decide) ?_
  exact mv_iret d_TrustDeskLaw_law_1520 rfl (by first | rfl | decide) rfl
theorem d_TrustDeskLaw_law_550 : decode kY_TrustDeskLaw_law.2.1 550 = .ok (.aload_n 1, 1) := by decide +kernel
theorem d_TrustDeskLaw_law_551 : decode kY_TrustDeskLaw_law.2.1 551 = .ok (.aload_n 0, 1) := by decide +kernel
theorem d_TrustDeskLaw_law_552 : decode kY_TrustDeskLaw_law.2.1 552 = .ok (.iload 4, 2) := by decide +kernel
theorem d_TrustDeskLaw_law_554 : decode kY_TrustDeskLaw_law.2.1 554 = .ok (.iconst 1, 1) := by decide +kernel
theorem d_TrustDeskLaw_law_555 : decode kY_TrustDeskLaw_law.2.1 555 = .ok (.iadd, 1) := by decide +kernel
theorem d_TrustDeskLaw_law_556 : decode kY_TrustDeskLaw_law.2.1 556 = .ok (.iaload, 1) := by decide +kernel
theorem d_TrustDeskLaw_law_557 : decode kY_TrustDeskLaw_law.2.1 557 = .ok (.aload_n 0, 1) := by decide +kernel
theorem d_TrustDeskLaw_law_558 : decode kY_TrustDeskLaw_law.2.1 558 = .ok (.iload 4, 2) := by decide +kernel
theorem d_TrustDeskLaw_law_560 : decode kY_TrustDeskLaw_law.2.1 560 = .ok (.iconst 2, 1) := by decide +kernel
theorem d_TrustDeskLaw_law_561 : decode kY_TrustDeskLaw_law.2.1 561 = .ok (.iadd, 1) := by decide +kernel
theorem d_TrustDeskLaw_law_562 : decode kY_TrustDeskLaw_law.2.1 562 = .ok (.iaload, 1) := by decide +kernel
theorem d_TrustDeskLaw_law_563 : decode kY_TrustDeskLaw_law.2.1 563 = .ok (.invokevirtual 64, 3) := by decide +kernel
theorem lV_TrustDeskLaw_64 : mj_lV "TrustDeskLaw" 64 kY_TrustDesk_trustee 2 := ⟨⟨(mj_in1 (List.mem_of_getElem? (i := 934) (by decide +kernel)) rfl), (mj_in1 (List.mem_of_getElem? (i := 1) (by decide +kernel)) rfl), (mj_in1 (List.mem_of_getElem? (i := 937) (by decide +kernel)) rfl), by decide, rfl, by decide⟩, (mj_in1 (List.mem_of_getElem? (i := 935) (by decide +kernel)) rfl), (mj_in1 (List.mem_of_getElem? (i := 936) (by decide +kernel)) rfl)⟩
theorem d_TrustDeskLaw_law_566 : decode kY_TrustDeskLaw_law.2.1 566 = .ok (.aload_n 2, 1) := by decide +kernel
theorem d_TrustDeskLaw_law_567 : decode kY_TrustDeskLaw_law.2.1 567 = .ok (.aload_n 0, 1) := by decide +kernel
theorem d_TrustDeskLaw_law_568 : decode kY_TrustDeskLaw_law.2.1 568 = .ok (.iload 4, 2) := by decide +kernel
theorem d_TrustDeskLaw_law_570 : decode kY_TrustDeskLaw_law.2.1 570 = .ok (.iconst 1, 1) := by decide +kernel
theorem d_TrustDeskLaw_law_571 : decode kY_TrustDeskLaw_law.2.1 571 = .ok (.iadd, 1) := by decide +kernel
theorem d_TrustDeskLaw_law_572 : decode kY_TrustDeskLaw_law.2.1 572 = .ok (.iaload, 1) := by decide +kernel
theorem d_TrustDeskLaw_law_573 : decode kY_TrustDeskLaw_law.2.1 573 = .ok (.aload_n 0, 1) := by decide +kernel
theorem d_TrustDeskLaw_law_574 : decode kY_TrustDeskLaw_law.2.1 574 = .ok (.iload 4, 2) := by decide +kernel
theorem d_TrustDeskLaw_law_576 : decode kY_TrustDeskLaw_law.2.1 576 = .ok (.iconst 2, 1) := by decide +kernel
theorem d_TrustDeskLaw_law_577 : decode kY_TrustDeskLaw_law.2.1 577 = .ok (.iadd, 1) := by decide +kernel
theorem d_TrustDeskLaw_law_578 : decode kY_TrustDeskLaw_law.2.1 578 = .ok (.iaload, 1) := by decide +kernel
theorem d_TrustDeskLaw_law_579 : decode kY_TrustDeskLaw_law.2.1 579 = .ok (.invokevirtual 68, 3) := by decide +kernel
theorem lV_TrustDeskLaw_68 : mj_lV "TrustDeskLaw" 68 kY_TrustDeskModel_trustee 2 := ⟨⟨(mj_in1 (List.mem_of_getElem? (i := 1905) (by decide +kernel)) rfl), (mj_in1 (List.mem_of_getElem? (i := 10) (by decide +kernel)) rfl), (mj_in1 (List.mem_of_getElem? (i := 1908) (by decide +kernel)) rfl), by decide, rfl, by decide⟩, (mj_in1 (List.mem_of_getElem? (i := 1906) (by decide +kernel)) rfl), (mj_in1 (List.mem_of_getElem? (i := 1907) (by decide +kernel)) rfl)⟩
theorem d_TrustDeskLaw_law_582 : decode kY_TrustDeskLaw_law.2.1 582 = .ok (.if_icmp .eq 931, 3) := by decide +kernel
theorem lw_case_10 {g : mj_G} {l : Launch} {d nx : Nat} {M : mj_M} (h_64 : M 64 = some (.inr (12, [.ref 65, .ref 70, .ref 77, .ref 80, .ref 90, .ref 94, .ref 95, .ref 96, .ref 97, .ref 98, .int 0, .int 0, .int 0]))) (h_95 : M 95 = some (.inr (0, [.int 0, .ref 0, .int 0]))) (h_99 : M 99 = some (.inr (13, [.int 0, .int 0, .int 0, .ref 100, .ref 101, .ref 102, .ref 103, .ref 104, .ref 105, .ref 106, .ref 107, .ref 108, .ref 109, .ref 110, .int 0, .int 0, .int 0, .int 0, .int 0, .int 0, .int 0, .int (-1), .int 0, .int 0, .int 0, .ref 111, .ref 112, .int 0, .ref 113, .ref 114, .ref 115, .int 0, .int 0, .ref 116, .ref 117, .ref 118, .ref 119, .ref 120, .ref 121, .ref 122, .ref 123, .ref 124, .ref 125, .ref 126, .ref 127, .ref 128, .ref 129, .ref 130, .ref 131, .int 0, .ref 132, .int 0, .ref 133, .int 0, .ref 134, .ref 135, .ref 136, .ref 137, .ref 138, .ref 139, .ref 140, .ref 141, .ref 142, .ref 143, .ref 144, .ref 145, .ref 146, .int 0, .long 0, .int 0, .int 0, .ref 147]))) (hL : mj_L g = 6) : mj_V g l kY_TrustDeskLaw_law (d + 9) 550 [(4, .int 0), (3, .ref 148), (2, .ref 99), (1, .ref 64), (0, .ref 50)] [] M 149 6 241 (fun r _ _ => r = some (.int 1)) := by
  refine mv_aload_n d_TrustDeskLaw_law_550 rfl rfl ?_
  refine mv_aload_n d_TrustDeskLaw_law_551 rfl rfl ?_
  refine mv_iload d_TrustDeskLaw_law_552 rfl ?_
  refine mv_iconst (v := 1) d_TrustDeskLaw_law_554 (by decide) ?_
  refine mv_iaddv (v := 1) d_TrustDeskLaw_law_555 (by decide) ?_
  refine mv_sld (v := (mj_xs g 1)) d_TrustDeskLaw_law_556 (by rw [hL]; unfold vp_in; decide) rfl ?_
  refine mv_aload_n d_TrustDeskLaw_law_557 rfl rfl ?_
  refine mv_iload d_TrustDeskLaw_law_558 rfl ?_
  refine mv_iconst (v := 2) d_TrustDeskLaw_law_560 (by decide) ?_
  refine mv_iaddv (v := 2) d_TrustDeskLaw_law_561 (by decide) ?_
  refine mv_sld (v := (mj_xs g 2)) d_TrustDeskLaw_law_562 (by rw [hL]; unfold vp_in; decide) rfl ?_
  refine mv_callV_s (kc' := 6) (ks' := 241) [.int (mj_xs g 1), .int (mj_xs g 2)] [.int (mj_xs g 2), .int (mj_xs g 1), .ref 64] d_TrustDeskLaw_law_563 lV_TrustDeskLaw_64 h_64 rfl (c_TrustDesk_trustee_0 (d := (d + 6)) (x1 := (mj_xs g 1)) (x2 := (mj_xs g 2)) (h_64 := h_64) (h_95 := h_95)) rfl (Nat.le_of_ble_eq_true rfl) (Nat.le_of_ble_eq_true rfl) (Nat.le_of_ble_eq_true rfl) rfl ?_
  refine mv_aload_n d_TrustDeskLaw_law_566 rfl rfl ?_
  refine mv_aload_n d_TrustDeskLaw_law_567 rfl rfl ?_
  refine mv_iload d_TrustDeskLaw_law_568 rfl ?_
  refine mv_iconst (v := 1) d_TrustDeskLaw_law_570 (by decide) ?_
  refine mv_iaddv (v := 1) d_TrustDeskLaw_law_571 (by decide) ?_
  refine mv_sld (v := (mj_xs g 1)) d_TrustDeskLaw_law_572 (by rw [hL]; unfold vp_in; decide) rfl ?_
  refine mv_aload_n d_TrustDeskLaw_law_573 rfl rfl ?_
  refine mv_iload d_TrustDeskLaw_law_574 rfl ?_
  refine mv_iconst (v := 2) d_TrustDeskLaw_law_576 (by decide) ?_
  refine mv_iaddv (v := 2) d_TrustDeskLaw_law_577 (by decide) ?_
  refine mv_sld (v := (mj_xs g 2)) d_TrustDeskLaw_law_578 (by rw [hL]; unfold vp_in; decide) rfl ?_
  refine mv_callV_s (kc' := 6) (ks' := 241) [.int (mj_xs g 1), .int (mj_xs g 2)] [.int (mj_xs g 2), .int (mj_xs g 1), .ref 99, .int 0] d_TrustDeskLaw_law_579 lV_TrustDeskLaw_68 h_99 rfl (c_TrustDeskModel_trustee_0 (d := (d + 6)) (x1 := (mj_xs g 1)) (x2 := (mj_xs g 2)) (h_99 := h_99)) rfl (Nat.le_of_ble_eq_true rfl) (Nat.le_of_ble_eq_true rfl) (Nat.le_of_ble_eq_true rfl) rfl ?_
  refine mv_icmp_eq_t (tgt := 1513) d_TrustDeskLaw_law_582 (by decide) (by decide) ?_
  refine mv_iinc (v := 6) (lv' := [(4, .int 6), (3, .ref 148), (2, .ref 99), (1, .ref 64), (0, .ref 50)]) d_TrustDeskLaw_law_1513 rfl (by decide) (by decide) rfl ?_
  refine mv_goto (tgt := 23) d_TrustDeskLaw_law_1516 (by decide) ?_
  refine mv_iload d_TrustDeskLaw_law_23 rfl ?_
  refine mv_aload_n d_TrustDeskLaw_law_25 rfl rfl ?_
  refine mv_slen (v := 6) d_TrustDeskLaw_law_26 (by rw [hL]; rfl) ?_
  refine mv_bipush (v := 6) d_TrustDeskLaw_law_27 (by decide) ?_
  refine mv_isubv (v := 0) d_TrustDeskLaw_law_29 (by decide) ?_
  refine mv_icmp_gt_t (tgt := 1519) d_TrustDeskLaw_law_30 (by decide) (by decide) ?_
  refine mv_iconst (v := 1) d_TrustDeskLaw_law_1519 (by decide) ?_
  exact mv_iret d_TrustDeskLaw_law_1520 rfl (by first | rfl | decide) rfl
theorem d_TrustDeskLaw_law_587 : decode kY_TrustDeskLaw_law.2.1 587 = .ok (.aload_n 1, 1) := by decide +kernel
theorem d_TrustDeskLaw_law_588 : decode kY_TrustDeskLaw_law.2.1 588 = .ok (.aload_n 0, 1) := by decide +kernel
theorem d_TrustDeskLaw_law_589 : decode kY_TrustDeskLaw_law.2.1 589 = .ok (.iload 4, 2) := by decide +kernel
theorem d_TrustDeskLaw_law_591 : decode kY_TrustDeskLaw_law.2.1 591 = .ok (.iconst 1, 1) := by decide +kernel
theorem d_TrustDeskLaw_law_592 : decode kY_TrustDeskLaw_law.2.1 592 = .ok (.iadd, 1) := by decide +kernel
theorem d_TrustDeskLaw_law_593 : decode kY_TrustDeskLaw_law.2.1 593 = .ok (.iaload, 1) := by decide +kernel
theorem d_TrustDeskLaw_law_594 : decode kY_TrustDeskLaw_law.2.1 594 = .ok (.aload_n 0, 1) := by decide +kernel
theorem d_TrustDeskLaw_law_595 : decode kY_TrustDeskLaw_law.2.1 595 = .ok (.iload 4, 2) := by decide +kernel
theorem d_TrustDeskLaw_law_597 : decode kY_TrustDeskLaw_law.2.1 597 = .ok (.iconst 2, 1) := by decide +kernel
theorem d_TrustDeskLaw_law_598 : decode kY_TrustDeskLaw_law.2.1 598 = .ok (.iadd, 1) := by decide +kernel
theorem d_TrustDeskLaw_law_599 : decode kY_TrustDeskLaw_law.2.1 599 = .ok (.iaload, 1) := by decide +kernel
theorem d_TrustDeskLaw_law_600 : decode kY_TrustDeskLaw_law.2.1 600 = .ok (.aload_n 0, 1) := by decide +kernel
theorem d_TrustDeskLaw_law_601 : decode kY_TrustDeskLaw_law.2.1 601 = .ok (.iload 4, 2) := by decide +kernel
theorem d_TrustDeskLaw_law_603 : decode kY_TrustDeskLaw_law.2.1 603 = .ok (.iconst 3, 1) := by decide +kernel
theorem d_TrustDeskLaw_law_604 : decode kY_TrustDeskLaw_law.2.1 604 = .ok (.iadd, 1) := by decide +kernel
theorem d_TrustDeskLaw_law_605 : decode kY_TrustDeskLaw_law.2.1 605 = .ok (.iaload, 1) := by decide +kernel
theorem d_TrustDeskLaw_law_606 : decode kY_TrustDeskLaw_law.2.1 606 = .ok (.invokevirtual 69, 3) := by decide +kernel
theorem lV_TrustDeskLaw_69 : mj_lV "TrustDeskLaw" 69 kY_TrustDesk_propose 3 := ⟨⟨(mj_in1 (List.mem_of_getElem? (i := 949) (by decide +kernel)) rfl), (mj_in1 (List.mem_of_getElem? (i := 1) (by decide +kernel)) rfl), (mj_in1 (List.mem_of_getElem? (i := 952) (by decide +kernel)) rfl), by decide, rfl, by decide⟩, (mj_in1 (List.mem_of_getElem? (i := 950) (by decide +kernel)) rfl), (mj_in1 (List.mem_of_getElem? (i := 951) (by decide +kernel)) rfl)⟩
theorem d_TrustDeskLaw_law_609 : decode kY_TrustDeskLaw_law.2.1 609 = .ok (.aload_n 2, 1) := by decide +kernel
theorem d_TrustDeskLaw_law_610 : decode kY_TrustDeskLaw_law.2.1 610 = .ok (.aload_n 0, 1) := by decide +kernel
theorem d_TrustDeskLaw_law_611 : decode kY_TrustDeskLaw_law.2.1 611 = .ok (.iload 4, 2) := by decide +kernel
theorem d_TrustDeskLaw_law_613 : decode kY_TrustDeskLaw_law.2.1 613 = .ok (.iconst 1, 1) := by decide +kernel
theorem d_TrustDeskLaw_law_614 : decode kY_TrustDeskLaw_law.2.1 614 = .ok (.iadd, 1) := by decide +kernel
theorem d_TrustDeskLaw_law_615 : decode kY_TrustDeskLaw_law.2.1 615 = .ok (.iaload, 1) := by decide +kernel
theorem d_TrustDeskLaw_law_616 : decode kY_TrustDeskLaw_law.2.1 616 = .ok (.aload_n 0, 1) := by decide +kernel
theorem d_TrustDeskLaw_law_617 : decode kY_TrustDeskLaw_law.2.1 617 = .ok (.iload 4, 2) := by decide +kernel
theorem d_TrustDeskLaw_law_619 : decode kY_TrustDeskLaw_law.2.1 619 = .ok (.iconst 2, 1) := by decide +kernel
theorem d_TrustDeskLaw_law_620 : decode kY_TrustDeskLaw_law.2.1 620 = .ok (.iadd, 1) := by decide +kernel
theorem d_TrustDeskLaw_law_621 : decode kY_TrustDeskLaw_law.2.1 621 = .ok (.iaload, 1) := by decide +kernel
theorem d_TrustDeskLaw_law_622 : decode kY_TrustDeskLaw_law.2.1 622 = .ok (.aload_n 0, 1) := by decide +kernel
theorem d_TrustDeskLaw_law_623 : decode kY_TrustDeskLaw_law.2.1 623 = .ok (.iload 4, 2) := by decide +kernel
theorem d_TrustDeskLaw_law_625 : decode kY_TrustDeskLaw_law.2.1 625 = .ok (.iconst 3, 1) := by decide +kernel
theorem d_TrustDeskLaw_law_626 : decode kY_TrustDeskLaw_law.2.1 626 = .ok (.iadd, 1) := by decide +kernel
theorem d_TrustDeskLaw_law_627 : decode kY_TrustDeskLaw_law.2.1 627 = .ok (.iaload, 1) := by decide +kernel
theorem d_TrustDeskLaw_law_628 : decode kY_TrustDeskLaw_law.2.1 628 = .ok (.invokevirtual 72, 3) := by decide +kernel
theorem lV_TrustDeskLaw_72 : mj_lV "TrustDeskLaw" 72 kY_TrustDeskModel_propose 3 := ⟨⟨(mj_in1 (List.mem_of_getElem? (i := 1920) (by decide +kernel)) rfl), (mj_in1 (List.mem_of_getElem? (i := 10) (by decide +kernel)) rfl), (mj_in1 (List.mem_of_getElem? (i := 1923) (by decide +kernel)) rfl), by decide, rfl, by decide⟩, (mj_in1 (List.mem_of_getElem? (i := 1921) (by decide +kernel)) rfl), (mj_in1 (List.mem_of_getElem? (i := 1922) (by decide +kernel)) rfl)⟩
theorem d_TrustDeskLaw_law_631 : decode kY_TrustDeskLaw_law.2.1 631 = .ok (.if_icmp .eq 882, 3) := by decide +kernel
theorem lw_case_11 {g : mj_G} {l : Launch} {d nx : Nat} {M : mj_M} (h_64 : M 64 = some (.inr (12, [.ref 65, .ref 70, .ref 77, .ref 80, .ref 90, .ref 94, .ref 95, .ref 96, .ref 97, .ref 98, .int 0, .int 0, .int 0]))) (h_95 : M 95 = some (.inr (0, [.int 0, .ref 0, .int 0]))) (h_99 : M 99 = some (.inr (13, [.int 0, .int 0, .int 0, .ref 100, .ref 101, .ref 102, .ref 103, .ref 104, .ref 105, .ref 106, .ref 107, .ref 108, .ref 109, .ref 110, .int 0, .int 0, .int 0, .int 0, .int 0, .int 0, .int 0, .int (-1), .int 0, .int 0, .int 0, .ref 111, .ref 112, .int 0, .ref 113, .ref 114, .ref 115, .int 0, .int 0, .ref 116, .ref 117, .ref 118, .ref 119, .ref 120, .ref 121, .ref 122, .ref 123, .ref 124, .ref 125, .ref 126, .ref 127, .ref 128, .ref 129, .ref 130, .ref 131, .int 0, .ref 132, .int 0, .ref 133, .int 0, .ref 134, .ref 135, .ref 136, .ref 137, .ref 138, .ref 139, .ref 140, .ref 141, .ref 142, .ref 143, .ref 144, .ref 145, .ref 146, .int 0, .long 0, .int 0, .int 0, .ref 147]))) (hL : mj_L g = 6) : mj_V g l kY_TrustDeskLaw_law (d + 9) 587 [(4, .int 0), (3, .ref 148), (2, .ref 99), (1, .ref 64), (0, .ref 50)] [] M 149 6 241 (fun r _ _ => r = some (.int 1)) := by
  refine mv_aload_n d_TrustDeskLaw_law_587 rfl rfl ?_
  refine mv_aload_n d_TrustDeskLaw_law_588 rfl rfl ?_
  refine mv_iload d_TrustDeskLaw_law_589 rfl ?_
  refine mv_iconst (v := 1) d_TrustDeskLaw_law_591 (by decide) ?_
  refine mv_iaddv (v := 1) d_TrustDeskLaw_law_592 (by decide) ?_
  refine mv_sld (v := (mj_xs g 1)) d_TrustDeskLaw_law_593 (by rw [hL]; unfold vp_in; decide) rfl ?_
  refine mv_aload_n d_TrustDeskLaw_law_594 rfl rfl ?_
  refine mv_iload d_TrustDeskLaw_law_595 rfl ?_
  refine mv_iconst (v := 2) d_TrustDeskLaw_law_597 (by decide) ?_
  refine mv_iaddv (v := 2) d_TrustDeskLaw_law_598 (by decide) ?_
  refine mv_sld (v := (mj_xs g 2)) d_TrustDeskLaw_law_599 (by rw [hL]; unfold vp_in; decide) rfl ?_
  refine mv_aload_n d_TrustDeskLaw_law_600 rfl rfl ?_
  refine mv_iload d_TrustDeskLaw_law_601 rfl ?_
  refine mv_iconst (v := 3) d_TrustDeskLaw_law_603 (by decide) ?_
  refine mv_iaddv (v := 3) d_TrustDeskLaw_law_604 (by decide) ?_
  refine mv_sld (v := (mj_xs g 3)) d_TrustDeskLaw_law_605 (by rw [hL]; unfold vp_in; decide) rfl ?_
  refine mv_callV_s (kc' := 6) (ks' := 241) [.int (mj_xs g 1), .int (mj_xs g 2), .int (mj_xs g 3)] [.int (mj_xs g 3), .int (mj_xs g 2), .int (mj_xs g 1), .ref 64] d_TrustDeskLaw_law_606 lV_TrustDeskLaw_69 h_64 rfl (c_TrustDesk_propose_0 (d := (d + 6)) (x1 := (mj_xs g 1)) (x2 := (mj_xs g 2)) (x3 := (mj_xs g 3)) (h_64 := h_64) (h_95 := h_95)) rfl (Nat.le_of_ble_eq_true rfl) (Nat.le_of_ble_eq_true rfl) (Nat.le_of_ble_eq_true rfl) rfl ?_
  refine mv_aload_n d_TrustDeskLaw_law_609 rfl rfl ?_
  refine mv_aload_n d_TrustDeskLaw_law_610 rfl rfl ?_
  refine mv_iload d_TrustDeskLaw_law_611 rfl ?_
  refine mv_iconst (v := 1) d_TrustDeskLaw_law_613 (by decide) ?_
  refine mv_iaddv (v := 1) d_TrustDeskLaw_law_614 (by decide) ?_
  refine mv_sld (v := (mj_xs g 1)) d_TrustDeskLaw_law_615 (by rw [hL]; unfold vp_in; decide) rfl ?_
  refine mv_aload_n d_TrustDeskLaw_law_616 rfl rfl ?_
  refine mv_iload d_TrustDeskLaw_law_617 rfl ?_
  refine mv_iconst (v := 2) d_TrustDeskLaw_law_619 (by decide) ?_
  refine mv_iaddv (v := 2) d_TrustDeskLaw_law_620 (by decide) ?_
  refine mv_sld (v := (mj_xs g 2)) d_TrustDeskLaw_law_621 (by rw [hL]; unfold vp_in; decide) rfl ?_
  refine mv_aload_n d_TrustDeskLaw_law_622 rfl rfl ?_
  refine mv_iload d_TrustDeskLaw_law_623 rfl ?_
  refine mv_iconst (v := 3) d_TrustDeskLaw_law_625 (by decide) ?_
  refine mv_iaddv (v := 3) d_TrustDeskLaw_law_626 (by decide) ?_
  refine mv_sld (v := (mj_xs g 3)) d_TrustDeskLaw_law_627 (by rw [hL]; unfold vp_in; decide) rfl ?_
  refine mv_callV_s (kc' := 6) (ks' := 241) [.int (mj_xs g 1), .int (mj_xs g 2), .int (mj_xs g 3)] [.int (mj_xs g 3), .int (mj_xs g 2), .int (mj_xs g 1), .ref 99, .int (-1)] d_TrustDeskLaw_law_628 lV_TrustDeskLaw_72 h_99 rfl (c_TrustDeskModel_propose_0 (d := (d + 7)) (x1 := (mj_xs g 1)) (x2 := (mj_xs g 2)) (x3 := (mj_xs g 3)) (h_99 := h_99)) rfl (Nat.le_of_ble_eq_true rfl) (Nat.le_of_ble_eq_true rfl) (Nat.le_of_ble_eq_true rfl) rfl ?_
  refine mv_icmp_eq_t (tgt := 1513) d_TrustDeskLaw_law_631 (by decide) (by decide) ?_
  refine mv_iinc (v := 6) (lv' := [(4, .int 6), (3, .ref 148), (2, .ref 99), (1, .ref 64), (0, .ref 50)]) d_TrustDeskLaw_law_1513 rfl (by decide) (by decide) rfl ?_
  refine mv_goto (tgt := 23) d_TrustDeskLaw_law_1516 (by decide) ?_
  refine mv_iload d_TrustDeskLaw_law_23 rfl ?_
  refine mv_aload_n d_TrustDeskLaw_law_25 rfl rfl ?_
  refine mv_slen (v := 6) d_TrustDeskLaw_law_26 (by rw [hL]; rfl) ?_
  refine mv_bipush (v := 6) d_TrustDeskLaw_law_27 (by decide) ?_
  refine mv_isubv (v := 0) d_TrustDeskLaw_law_29 (by decide) ?_
  refine mv_icmp_gt_t (tgt := 1519) d_TrustDeskLaw_law_30 (by decide) (by decide) ?_
  refine mv_iconst (v := 1) d_TrustDeskLaw_law_1519 (by decide) ?_
  exact mv_iret d_TrustDeskLaw_law_1520 rfl (by first | rfl | decide) rfl
theorem d_TrustDeskLaw_law_636 : decode kY_TrustDeskLaw_law.2.1 636 = .ok (.aload_n 1, 1) := by decide +kernel
theorem d_TrustDeskLaw_law_637 : decode kY_TrustDeskLaw_law.2.1 637 = .ok (.aload_n 0, 1) := by decide +kernel
theorem d_TrustDeskLaw_law_638 : decode kY_TrustDeskLaw_law.2.1 638 = .ok (.iload 4, 2) := by decide +kernel
theorem d_TrustDeskLaw_law_640 : decode kY_TrustDeskLaw_law.2.1 640 = .ok (.iconst 1, 1) := by decide +kernel
theorem d_TrustDeskLaw_law_641 : decode kY_TrustDeskLaw_law.2.1 641 = .ok (.iadd, 1) := by decide +kernel
theorem d_TrustDeskLaw_law_642 : decode kY_TrustDeskLaw_law.2.1 642 = .ok (.iaload, 1) := by decide +kernel
theorem d_TrustDeskLaw_law_643 : decode kY_TrustDeskLaw_law.2.1 643 = .ok (.aload_n 0, 1) := by decide +kernel
theorem d_TrustDeskLaw_law_644 : decode kY_TrustDeskLaw_law.2.1 644 = .ok (.iload 4, 2) := by decide +kernel
theorem d_TrustDeskLaw_law_646 : decode kY_TrustDeskLaw_law.2.1 646 = .ok (.iconst 2, 1) := by decide +kernel
theorem d_TrustDeskLaw_law_647 : decode kY_TrustDeskLaw_law.2.1 647 = .ok (.iadd, 1) := by decide +kernel
theorem d_TrustDeskLaw_law_648 : decode kY_TrustDeskLaw_law.2.1 648 = .ok (.iaload, 1) := by decide +kernel
theorem d_TrustDeskLaw_law_649 : decode kY_TrustDeskLaw_law.2.1 649 = .ok (.invokevirtual 73, 3) := by decide +kernel
theorem lV_TrustDeskLaw_73 : mj_lV "TrustDeskLaw" 73 kY_TrustDesk_objects 2 := ⟨⟨(mj_in1 (List.mem_of_getElem? (i := 1013) (by decide +kernel)) rfl), (mj_in1 (List.mem_of_getElem? (i := 1) (by decide +kernel)) rfl), (mj_in1 (List.mem_of_getElem? (i := 1016) (by decide +kernel)) rfl), by decide, rfl, by decide⟩, (mj_in1 (List.mem_of_getElem? (i := 1014) (by decide +kernel)) rfl), (mj_in1 (List.mem_of_getElem? (i := 1015) (by decide +kernel)) rfl)⟩
theorem d_TrustDeskLaw_law_652 : decode kY_TrustDeskLaw_law.2.1 652 = .ok (.aload_n 2, 1) := by decide +kernel
theorem d_TrustDeskLaw_law_653 : decode kY_TrustDeskLaw_law.2.1 653 = .ok (.aload_n 0, 1) := by decide +kernel
theorem d_TrustDeskLaw_law_654 : decode kY_TrustDeskLaw_law.2.1 654 = .ok (.iload 4, 2) := by decide +kernel
theorem d_TrustDeskLaw_law_656 : decode kY_TrustDeskLaw_law.2.1 656 = .ok (.iconst 1, 1) := by decide +kernel
theorem d_TrustDeskLaw_law_657 : decode kY_TrustDeskLaw_law.2.1 657 = .ok (.iadd, 1) := by decide +kernel
theorem d_TrustDeskLaw_law_658 : decode kY_TrustDeskLaw_law.2.1 658 = .ok (.iaload, 1) := by decide +kernel
theorem d_TrustDeskLaw_law_659 : decode kY_TrustDeskLaw_law.2.1 659 = .ok (.aload_n 0, 1) := by decide +kernel
theorem d_TrustDeskLaw_law_660 : decode kY_TrustDeskLaw_law.2.1 660 = .ok (.iload 4, 2) := by decide +kernel
theorem d_TrustDeskLaw_law_662 : decode kY_TrustDeskLaw_law.2.1 662 = .ok (.iconst 2, 1) := by decide +kernel
theorem d_TrustDeskLaw_law_663 : decode kY_TrustDeskLaw_law.2.1 663 = .ok (.iadd, 1) := by decide +kernel
theorem d_TrustDeskLaw_law_664 : decode kY_TrustDeskLaw_law.2.1 664 = .ok (.iaload, 1) := by decide +kernel
theorem d_TrustDeskLaw_law_665 : decode kY_TrustDeskLaw_law.2.1 665 = .ok (.invokevirtual 76, 3) := by decide +kernel
theorem lV_TrustDeskLaw_76 : mj_lV "TrustDeskLaw" 76 kY_TrustDeskModel_objects 2 := ⟨⟨(mj_in1 (List.mem_of_getElem? (i := 1925) (by decide +kernel)) rfl), (mj_in1 (List.mem_of_getElem? (i := 10) (by decide +kernel)) rfl), (mj_in1 (List.mem_of_getElem? (i := 1928) (by decide +kernel)) rfl), by decide, rfl, by decide⟩, (mj_in1 (List.mem_of_getElem? (i := 1926) (by decide +kernel)) rfl), (mj_in1 (List.mem_of_getElem? (i := 1927) (by decide +kernel)) rfl)⟩
theorem d_TrustDeskLaw_law_668 : decode kY_TrustDeskLaw_law.2.1 668 = .ok (.if_icmp .eq 845, 3) := by decide +kernel
theorem lw_case_12 {g : mj_G} {l : Launch} {d nx : Nat} {M : mj_M} (h_64 : M 64 = some (.inr (12, [.ref 65, .ref 70, .ref 77, .ref 80, .ref 90, .ref 94, .ref 95, .ref 96, .ref 97, .ref 98, .int 0, .int 0, .int 0]))) (h_97 : M 97 = some (.inr (0, [.int 0, .ref 0, .int 0]))) (h_99 : M 99 = some (.inr (13, [.int 0, .int 0, .int 0, .ref 100, .ref 101, .ref 102, .ref 103, .ref 104, .ref 105, .ref 106, .ref 107, .ref 108, .ref 109, .ref 110, .int 0, .int 0, .int 0, .int 0, .int 0, .int 0, .int 0, .int (-1), .int 0, .int 0, .int 0, .ref 111, .ref 112, .int 0, .ref 113, .ref 114, .ref 115, .int 0, .int 0, .ref 116, .ref 117, .ref 118, .ref 119, .ref 120, .ref 121, .ref 122, .ref 123, .ref 124, .ref 125, .ref 126, .ref 127, .ref 128, .ref 129, .ref 130, .ref 131, .int 0, .ref 132, .int 0, .ref 133, .int 0, .ref 134, .ref 135, .ref 136, .ref 137, .ref 138, .ref 139, .ref 140, .ref 141, .ref 142, .ref 143, .ref 144, .ref 145, .ref 146, .int 0, .long 0, .int 0, .int 0, .ref 147]))) (hL : mj_L g = 6) : mj_V g l kY_TrustDeskLaw_law (d + 9) 636 [(4, .int 0), (3, .ref 148), (2, .ref 99), (1, .ref 64), (0, .ref 50)] [] M 149 6 241 (fun r _ _ => r = some (.int 1)) := by
  refine mv_aload_n d_TrustDeskLaw_law_636 rfl rfl ?_
  refine mv_aload_n d_TrustDeskLaw_law_637 rfl rfl ?_
  refine mv_iload d_TrustDeskLaw_law_638 rfl ?_
  refine mv_iconst (v := 1) d_TrustDeskLaw_law_640 (by decide) ?_
  refine mv_iaddv (v := 1) d_TrustDeskLaw_law_641 (by decide) ?_
  refine mv_sld (v := (mj_xs g 1)) d_TrustDeskLaw_law_642 (by rw [hL]; unfold vp_in; decide) rfl ?_
  refine mv_aload_n d_TrustDeskLaw_law_643 rfl rfl ?_
  refine mv_iload d_TrustDeskLaw_law_644 rfl ?_
  refine mv_iconst (v := 2) d_TrustDeskLaw_law_646 (by decide) ?_
  refine mv_iaddv (v := 2) d_TrustDeskLaw_law_647 (by decide) ?_
  refine mv_sld (v := (mj_xs g 2)) d_TrustDeskLaw_law_648 (by rw [hL]; unfold vp_in; decide) rfl ?_
  refine mv_callV_s (kc' := 6) (ks' := 241) [.int (mj_xs g 1), .int (mj_xs g 2)] [.int (mj_xs g 2), .int (mj_xs g 1), .ref 64] d_TrustDeskLaw_law_649 lV_TrustDeskLaw_73 h_64 rfl (c_TrustDesk_objects_0 (d := (d + 6)) (x1 := (mj_xs g 1)) (x2 := (mj_xs g 2)) (h_64 := h_64) (h_97 := h_97)) rfl (Nat.le_of_ble_eq_true rfl) (Nat.le_of_ble_eq_true rfl) (Nat.le_of_ble_eq_true rfl) rfl ?_
  refine mv_aload_n d_TrustDeskLaw_law_652 rfl rfl ?_
  refine mv_aload_n d_TrustDeskLaw_law_653 rfl rfl ?_
  refine mv_iload d_TrustDeskLaw_law_654 rfl ?_
  refine mv_iconst (v := 1) d_TrustDeskLaw_law_656 (by decide) ?_
  refine mv_iaddv (v := 1) d_TrustDeskLaw_law_657 (by decide) ?_
  refine mv_sld (v := (mj_xs g 1)) d_TrustDeskLaw_law_658 (by rw [hL]; unfold vp_in; decide) rfl ?_
  refine mv_aload_n d_TrustDeskLaw_law_659 rfl rfl ?_
  refine mv_iload d_TrustDeskLaw_law_660 rfl ?_
  refine mv_iconst (v := 2) d_TrustDeskLaw_law_662 (by decide) ?_
  refine mv_iaddv (v := 2) d_TrustDeskLaw_law_663 (by decide) ?_
  refine mv_sld (v := (mj_xs g 2)) d_TrustDeskLaw_law_664 (by rw [hL]; unfold vp_in; decide) rfl ?_
  refine mv_callV_s (kc' := 6) (ks' := 241) [.int (mj_xs g 1), .int (mj_xs g 2)] [.int (mj_xs g 2), .int (mj_xs g 1), .ref 99, .int 0] d_TrustDeskLaw_law_665 lV_TrustDeskLaw_76 h_99 rfl (c_TrustDeskModel_objects_0 (d := (d + 7)) (x1 := (mj_xs g 1)) (x2 := (mj_xs g 2)) (h_99 := h_99)) rfl (Nat.le_of_ble_eq_true rfl) (Nat.le_of_ble_eq_true rfl) (Nat.le_of_ble_eq_true rfl) rfl ?_
  refine mv_icmp_eq_t (tgt := 1513) d_TrustDeskLaw_law_668 (by decide) (by decide) ?_
  refine mv_iinc (v := 6) (lv' := [(4, .int 6), (3, .ref 148), (2, .ref 99), (1, .ref 64), (0, .ref 50)]) d_TrustDeskLaw_law_1513 rfl (by decide) (by decide) rfl ?_
  refine mv_goto (tgt := 23) d_TrustDeskLaw_law_1516 (by decide) ?_
  refine mv_iload d_TrustDeskLaw_law_23 rfl ?_
  refine mv_aload_n d_TrustDeskLaw_law_25 rfl rfl ?_
  refine mv_slen (v := 6) d_TrustDeskLaw_law_26 (by rw [hL]; rfl) ?_
  refine mv_bipush (v := 6) d_TrustDeskLaw_law_27 (by decide) ?_
  refine mv_isubv (v := 0) d_TrustDeskLaw_law_29 (by decide) ?_
  refine mv_icmp_gt_t (tgt := 1519) d_TrustDeskLaw_law_30 (by decide) (by decide) ?_
  refine mv_iconst (v := 1) d_TrustDeskLaw_law_1519 (by decide) ?_
  exact mv_iret d_TrustDeskLaw_law_1520 rfl (by first | rfl | decide) rfl
theorem d_TrustDeskLaw_law_673 : decode kY_TrustDeskLaw_law.2.1 673 = .ok (.aload_n 1, 1) := by decide +kernel
theorem d_TrustDeskLaw_law_674 : decode kY_TrustDeskLaw_law.2.1 674 = .ok (.aload_n 0, 1) := by decide +kernel
theorem d_TrustDeskLaw_law_675 : decode kY_TrustDeskLaw_law.2.1 675 = .ok (.iload 4, 2) := by decide +kernel
theorem d_TrustDeskLaw_law_677 : decode kY_TrustDeskLaw_law.2.1 677 = .ok (.iconst 1, 1) := by decide +kernel
theorem d_TrustDeskLaw_law_678 : decode kY_TrustDeskLaw_law.2.1 678 = .ok (.iadd, 1) := by decide +kernel
theorem d_TrustDeskLaw_law_679 : decode kY_TrustDeskLaw_law.2.1 679 = .ok (.iaload, 1) := by decide +kernel
theorem d_TrustDeskLaw_law_680 : decode kY_TrustDeskLaw_law.2.1 680 = .ok (.aload_n 0, 1) := by decide +kernel
theorem d_TrustDeskLaw_law_681 : decode kY_TrustDeskLaw_law.2.1 681 = .ok (.iload 4, 2) := by decide +kernel
theorem d_TrustDeskLaw_law_683 : decode kY_TrustDeskLaw_law.2.1 683 = .ok (.iconst 2, 1) := by decide +kernel
theorem d_TrustDeskLaw_law_684 : decode kY_TrustDeskLaw_law.2.1 684 = .ok (.iadd, 1) := by decide +kernel
theorem d_TrustDeskLaw_law_685 : decode kY_TrustDeskLaw_law.2.1 685 = .ok (.iaload, 1) := by decide +kernel
theorem d_TrustDeskLaw_law_686 : decode kY_TrustDeskLaw_law.2.1 686 = .ok (.invokevirtual 77, 3) := by decide +kernel
theorem lV_TrustDeskLaw_77 : mj_lV "TrustDeskLaw" 77 kY_TrustDesk_withdraws 2 := ⟨⟨(mj_in1 (List.mem_of_getElem? (i := 1025) (by decide +kernel)) rfl), (mj_in1 (List.mem_of_getElem? (i := 1) (by decide +kernel)) rfl), (mj_in1 (List.mem_of_getElem? (i := 1028) (by decide +kernel)) rfl), by decide, rfl, by decide⟩, (mj_in1 (List.mem_of_getElem? (i := 1026) (by decide +kernel)) rfl), (mj_in1 (List.mem_of_getElem? (i := 1027) (by decide +kernel)) rfl)⟩
theorem d_TrustDeskLaw_law_689 : decode kY_TrustDeskLaw_law.2.1 689 = .ok (.aload_n 2, 1) := by decide +kernel
theorem d_TrustDeskLaw_law_690 : decode kY_TrustDeskLaw_law.2.1 690 = .ok (.aload_n 0, 1) := by decide +kernel
theorem d_TrustDeskLaw_law_691 : decode kY_TrustDeskLaw_law.2.1 691 = .ok (.iload 4, 2) := by decide +kernel
theorem d_TrustDeskLaw_law_693 : decode kY_TrustDeskLaw_law.2.1 693 = .ok (.iconst 1, 1) := by decide +kernel
theorem d_TrustDeskLaw_law_694 : decode kY_TrustDeskLaw_law.2.1 694 = .ok (.iadd, 1) := by decide +kernel
theorem d_TrustDeskLaw_law_695 : decode kY_TrustDeskLaw_law.2.1 695 = .ok (.iaload, 1) := by decide +kernel
theorem d_TrustDeskLaw_law_696 : decode kY_TrustDeskLaw_law.2.1 696 = .ok (.aload_n 0, 1) := by decide +kernel
theorem d_TrustDeskLaw_law_697 : decode kY_TrustDeskLaw_law.2.1 697 = .ok (.iload 4, 2) := by decide +kernel
theorem d_TrustDeskLaw_law_699 : decode kY_TrustDeskLaw_law.2.1 699 = .ok (.iconst 2, 1) := by decide +kernel
theorem d_TrustDeskLaw_law_700 : decode kY_TrustDeskLaw_law.2.1 700 = .ok (.iadd, 1) := by decide +kernel
theorem d_TrustDeskLaw_law_701 : decode kY_TrustDeskLaw_law.2.1 701 = .ok (.iaload, 1) := by decide +kernel
theorem d_TrustDeskLaw_law_702 : decode kY_TrustDeskLaw_law.2.1 702 = .ok (.invokevirtual 80, 3) := by decide +kernel
theorem lV_TrustDeskLaw_80 : mj_lV "TrustDeskLaw" 80 kY_TrustDeskModel_withdraws 2 := ⟨⟨(mj_in1 (List.mem_of_getElem? (i := 1941) (by decide +kernel)) rfl), (mj_in1 (List.mem_of_getElem? (i := 10) (by decide +kernel)) rfl), (mj_in1 (List.mem_of_getElem? (i := 1944) (by decide +kernel)) rfl), by decide, rfl, by decide⟩, (mj_in1 (List.mem_of_getElem? (i := 1942) (by decide +kernel)) rfl), (mj_in1 (List.mem_of_getElem? (i := 1943) (by decide +kernel)) rfl)⟩
theorem d_TrustDeskLaw_law_705 : decode kY_TrustDeskLaw_law.2.1 705 = .ok (.if_icmp .eq 808, 3) := by decide +kernel
theorem lw_case_13 {g : mj_G} {l : Launch} {d nx : Nat} {M : mj_M} (h_64 : M 64 = some (.inr (12, [.ref 65, .ref 70, .ref 77, .ref 80, .ref 90, .ref 94, .ref 95, .ref 96, .ref 97, .ref 98, .int 0, .int 0, .int 0]))) (h_97 : M 97 = some (.inr (0, [.int 0, .ref 0, .int 0]))) (h_99 : M 99 = some (.inr (13, [.int 0, .int 0, .int 0, .ref 100, .ref 101, .ref 102, .ref 103, .ref 104, .ref 105, .ref 106, .ref 107, .ref 108, .ref 109, .ref 110, .int 0, .int 0, .int 0, .int 0, .int 0, .int 0, .int 0, .int (-1), .int 0, .int 0, .int 0, .ref 111, .ref 112, .int 0, .ref 113, .ref 114, .ref 115, .int 0, .int 0, .ref 116, .ref 117, .ref 118, .ref 119, .ref 120, .ref 121, .ref 122, .ref 123, .ref 124, .ref 125, .ref 126, .ref 127, .ref 128, .ref 129, .ref 130, .ref 131, .int 0, .ref 132, .int 0, .ref 133, .int 0, .ref 134, .ref 135, .ref 136, .ref 137, .ref 138, .ref 139, .ref 140, .ref 141, .ref 142, .ref 143, .ref 144, .ref 145, .ref 146, .int 0, .long 0, .int 0, .int 0, .ref 147]))) (hL : mj_L g = 6) : mj_V g l kY_TrustDeskLaw_law (d + 9) 673 [(4, .int 0), (3, .ref 148), (2, .ref 99), (1, .ref 64), (0, .ref 50)] [] M 149 6 241 (fun r _ _ => r = some (.int 1)) := by
  refine mv_aload_n d_TrustDeskLaw_law_673 rfl rfl ?_
  refine mv_aload_n d_TrustDeskLaw_law_674 rfl rfl ?_
  refine mv_iload d_TrustDeskLaw_law_675 rfl ?_
  refine mv_iconst (v := 1) d_TrustDeskLaw_law_677 (by decide) ?_
  refine mv_iaddv (v := 1) d_TrustDeskLaw_law_678 (by decide) ?_
  refine mv_sld (v := (mj_xs g 1)) d_TrustDeskLaw_law_679 (by rw [hL]; unfold vp_in; decide) rfl ?_
  refine mv_aload_n d_TrustDeskLaw_law_680 rfl rfl ?_
  refine mv_iload d_TrustDeskLaw_law_681 rfl ?_
  refine mv_iconst (v := 2) d_TrustDeskLaw_law_683 (by decide) ?_
  refine mv_iaddv (v := 2) d_TrustDeskLaw_law_684 (by decide) ?_
  refine mv_sld (v := (mj_xs g 2)) d_TrustDeskLaw_law_685 (by rw [hL]; unfold vp_in; decide) rfl ?_
  refine mv_callV_s (kc' := 6) (ks' := 241) [.int (mj_xs g 1), .int (mj_xs g 2)] [.int (mj_xs g 2), .int (mj_xs g 1), .ref 64] d_TrustDeskLaw_law_686 lV_TrustDeskLaw_77 h_64 rfl (c_TrustDesk_withdraws_0 (d := (d + 6)) (x1 := (mj_xs g 1)) (x2 := (mj_xs g 2)) (h_64 := h_64) (h_97 := h_97)) rfl (Nat.le_of_ble_eq_true rfl) (Nat.le_of_ble_eq_true rfl) (Nat.le_of_ble_eq_true rfl) rfl ?_
  refine mv_aload_n d_TrustDeskLaw_law_689 rfl rfl ?_
  refine mv_aload_n d_TrustDeskLaw_law_690 rfl rfl ?_
  refine mv_iload d_TrustDeskLaw_law_691 rfl ?_
  refine mv_iconst (v := 1) d_TrustDeskLaw_law_693 (by decide) ?_
  refine mv_iaddv (v := 1) d_TrustDeskLaw_law_694 (by decide) ?_
  refine mv_sld (v := (mj_xs g 1)) d_TrustDeskLaw_law_695 (by rw [hL]; unfold vp_in; decide) rfl ?_
  refine mv_aload_n d_TrustDeskLaw_law_696 rfl rfl ?_
  refine mv_iload d_TrustDeskLaw_law_697 rfl ?_
  refine mv_iconst (v := 2) d_TrustDeskLaw_law_699 (by decide) ?_
  refine mv_iaddv (v := 2) d_TrustDeskLaw_law_700 (by decide) ?_
  refine mv_sld (v := (mj_xs g 2)) d_TrustDeskLaw_law_701 (by rw [hL]; unfold vp_in; decide) rfl ?_
  refine mv_callV_s (kc' := 6) (ks' := 241) [.int (mj_xs g 1), .int (mj_xs g 2)] [.int (mj_xs g 2), .int (mj_xs g 1), .ref 99, .int 0] d_TrustDeskLaw_law_702 lV_TrustDeskLaw_80 h_99 rfl (c_TrustDeskModel_withdraws_0 (d := (d + 7)) (x1 := (mj_xs g 1)) (x2 := (mj_xs g 2)) (h_99 := h_99)) rfl (Nat.le_of_ble_eq_true rfl) (Nat.le_of_ble_eq_true rfl) (Nat.le_of_ble_eq_true rfl) rfl ?_
  refine mv_icmp_eq_t (tgt := 1513) d_TrustDeskLaw_law_705 (by decide) (by decide) ?_
  refine mv_iinc (v := 6) (lv' := [(4, .int 6), (3, .ref 148), (2, .ref 99), (1, .ref 64), (0, .ref 50)]) d_TrustDeskLaw_law_1513 rfl (by decide) (by decide) rfl ?_
  refine mv_goto (tgt := 23) d_TrustDeskLaw_law_1516 (by decide) ?_
  refine mv_iload d_TrustDeskLaw_law_23 rfl ?_
  refine mv_aload_n d_TrustDeskLaw_law_25 rfl rfl ?_
  refine mv_slen (v := 6) d_TrustDeskLaw_law_26 (by rw [hL]; rfl) ?_
  refine mv_bipush (v := 6) d_TrustDeskLaw_law_27 (by decide) ?_
  refine mv_isubv (v := 0) d_TrustDeskLaw_law_29 (by decide) ?_
  refine mv_icmp_gt_t (tgt := 1519) d_TrustDeskLaw_law_30 (by decide) (by decide) ?_
  refine mv_iconst (v := 1) d_TrustDeskLaw_law_1519 (by decide) ?_
  exact mv_iret d_TrustDeskLaw_law_1520 rfl (by first | rfl | decide) rfl
theorem d_TrustDeskLaw_law_710 : decode kY_TrustDeskLaw_law.2.1 710 = .ok (.aload_n 1, 1) := by decide +kernel
theorem d_TrustDeskLaw_law_711 : decode kY_TrustDeskLaw_law.2.1 711 = .ok (.aload_n 0, 1) := by decide +kernel
theorem d_TrustDeskLaw_law_712 : decode kY_TrustDeskLaw_law.2.1 712 = .ok (.iload 4, 2) := by decide +kernel
theorem d_TrustDeskLaw_law_714 : decode kY_TrustDeskLaw_law.2.1 714 = .ok (.iconst 1, 1) := by decide +kernel
theorem d_TrustDeskLaw_law_715 : decode kY_TrustDeskLaw_law.2.1 715 = .ok (.iadd, 1) := by decide +kernel
theorem d_TrustDeskLaw_law_716 : decode kY_TrustDeskLaw_law.2.1 716 = .ok (.iaload, 1) := by decide +kernel
theorem d_TrustDeskLaw_law_717 : decode kY_TrustDeskLaw_law.2.1 717 = .ok (.aload_n 0, 1) := by decide +kernel
theorem d_TrustDeskLaw_law_718 : decode kY_TrustDeskLaw_law.2.1 718 = .ok (.iload 4, 2) := by decide +kernel
theorem d_TrustDeskLaw_law_720 : decode kY_TrustDeskLaw_law.2.1 720 = .ok (.iconst 2, 1) := by decide +kernel
theorem d_TrustDeskLaw_law_721 : decode kY_TrustDeskLaw_law.2.1 721 = .ok (.iadd, 1) := by decide +kernel
theorem d_TrustDeskLaw_law_722 : decode kY_TrustDeskLaw_law.2.1 722 = .ok (.iaload, 1) := by decide +kernel
theorem d_TrustDeskLaw_law_723 : decode kY_TrustDeskLaw_law.2.1 723 = .ok (.aload_n 0, 1) := by decide +kernel
theorem d_TrustDeskLaw_law_724 : decode kY_TrustDeskLaw_law.2.1 724 = .ok (.iload 4, 2) := by decide +kernel
theorem d_TrustDeskLaw_law_726 : decode kY_TrustDeskLaw_law.2.1 726 = .ok (.iconst 3, 1) := by decide +kernel
theorem d_TrustDeskLaw_law_727 : decode kY_TrustDeskLaw_law.2.1 727 = .ok (.iadd, 1) := by decide +kernel
theorem d_TrustDeskLaw_law_728 : decode kY_TrustDeskLaw_law.2.1 728 = .ok (.iaload, 1) := by decide +kernel
theorem d_TrustDeskLaw_law_729 : decode kY_TrustDeskLaw_law.2.1 729 = .ok (.ifCond .eq 7, 3) := by decide +kernel
theorem d_TrustDeskLaw_law_736 : decode kY_TrustDeskLaw_law.2.1 736 = .ok (.iconst 0, 1) := by decide +kernel
theorem d_TrustDeskLaw_law_737 : decode kY_TrustDeskLaw_law.2.1 737 = .ok (.invokevirtual 81, 3) := by decide +kernel
theorem lV_TrustDeskLaw_81 : mj_lV "TrustDeskLaw" 81 kY_TrustDesk_vote 3 := ⟨⟨(mj_in1 (List.mem_of_getElem? (i := 1033) (by decide +kernel)) rfl), (mj_in1 (List.mem_of_getElem? (i := 1) (by decide +kernel)) rfl), (mj_in1 (List.mem_of_getElem? (i := 1036) (by decide +kernel)) rfl), by decide, rfl, by decide⟩, (mj_in1 (List.mem_of_getElem? (i := 1034) (by decide +kernel)) rfl), (mj_in1 (List.mem_of_getElem? (i := 1035) (by decide +kernel)) rfl)⟩
theorem c_TrustDesk_vote_1 {g : mj_G} {l : Launch} {d nx : Nat} {M : mj_M} {x1 : Int32} {x2 : Int32} (h_64 : M 64 = some (.inr (12, [.ref 65, .ref 70, .ref 77, .ref 80, .ref 90, .ref 94, .ref 95, .ref 96, .ref 97, .ref 98, .int 0, .int 0, .int 0]))) (h_97 : M 97 = some (.inr (0, [.int 0, .ref 0, .int 0]))) : mj_Met g l kY_TrustDesk_vote (d + 2) [.ref 64, .int x1, .int x2, .int 0] M nx 0 0 (mj_E1 (some (.int 0)) M nx) := by
  refine mj_enter (by decide) (Nat.le_of_ble_eq_true rfl) ?_
  refine mv_aload_n d_TrustDesk_vote_0 rfl rfl ?_
  refine mv_iload_n d_TrustDesk_vote_1 rfl rfl ?_
  refine mv_callV_s (kc' := 0) (ks' := 0) [.int x1] [.int x1, .ref 64] d_TrustDesk_vote_2 lV_TrustDesk_280 h_64 rfl (c_TrustDesk_schemeAt_0 (d := d) (x1 := x1) (h_64 := h_64) (h_97 := h_97)) rfl (Nat.le_of_ble_eq_true rfl) (Nat.le_of_ble_eq_true rfl) (Nat.le_of_ble_eq_true rfl) rfl ?_
  refine mv_astoreN (lv' := [(4, .null), (0, .ref 64), (1, .int x1), (2, .int x2), (3, .int 0)]) d_TrustDesk_vote_5 (by decide) rfl ?_
  refine mv_aloadN d_TrustDesk_vote_7 rfl ?_
  refine mv_ifnullN (tgt := 37) d_TrustDesk_vote_9 (by decide) ?_
  refine mv_iconst (v := 0) d_TrustDesk_vote_37 (by decide) ?_
  exact mv_iret d_TrustDesk_vote_38 rfl (by first | rfl | decide) ⟨rfl, rfl, rfl⟩
theorem d_TrustDeskLaw_law_740 : decode kY_TrustDeskLaw_law.2.1 740 = .ok (.aload_n 2, 1) := by decide +kernel
theorem d_TrustDeskLaw_law_741 : decode kY_TrustDeskLaw_law.2.1 741 = .ok (.aload_n 0, 1) := by decide +kernel
theorem d_TrustDeskLaw_law_742 : decode kY_TrustDeskLaw_law.2.1 742 = .ok (.iload 4, 2) := by decide +kernel
theorem d_TrustDeskLaw_law_744 : decode kY_TrustDeskLaw_law.2.1 744 = .ok (.iconst 1, 1) := by decide +kernel
theorem d_TrustDeskLaw_law_745 : decode kY_TrustDeskLaw_law.2.1 745 = .ok (.iadd, 1) := by decide +kernel
theorem d_TrustDeskLaw_law_746 : decode kY_TrustDeskLaw_law.2.1 746 = .ok (.iaload, 1) := by decide +kernel
theorem d_TrustDeskLaw_law_747 : decode kY_TrustDeskLaw_law.2.1 747 = .ok (.aload_n 0, 1) := by decide +kernel
theorem d_TrustDeskLaw_law_748 : decode kY_TrustDeskLaw_law.2.1 748 = .ok (.iload 4, 2) := by decide +kernel
theorem d_TrustDeskLaw_law_750 : decode kY_TrustDeskLaw_law.2.1 750 = .ok (.iconst 2, 1) := by decide +kernel
theorem d_TrustDeskLaw_law_751 : decode kY_TrustDeskLaw_law.2.1 751 = .ok (.iadd, 1) := by decide +kernel
theorem d_TrustDeskLaw_law_752 : decode kY_TrustDeskLaw_law.2.1 752 = .ok (.iaload, 1) := by decide +kernel
theorem d_TrustDeskLaw_law_753 : decode kY_TrustDeskLaw_law.2.1 753 = .ok (.aload_n 0, 1) := by decide +kernel
theorem d_TrustDeskLaw_law_754 : decode kY_TrustDeskLaw_law.2.1 754 = .ok (.iload 4, 2) := by decide +kernel
theorem d_TrustDeskLaw_law_756 : decode kY_TrustDeskLaw_law.2.1 756 = .ok (.iconst 3, 1) := by decide +kernel
theorem d_TrustDeskLaw_law_757 : decode kY_TrustDeskLaw_law.2.1 757 = .ok (.iadd, 1) := by decide +kernel
theorem d_TrustDeskLaw_law_758 : decode kY_TrustDeskLaw_law.2.1 758 = .ok (.iaload, 1) := by decide +kernel
theorem d_TrustDeskLaw_law_759 : decode kY_TrustDeskLaw_law.2.1 759 = .ok (.ifCond .eq 7, 3) := by decide +kernel
theorem d_TrustDeskLaw_law_766 : decode kY_TrustDeskLaw_law.2.1 766 = .ok (.iconst 0, 1) := by decide +kernel
theorem d_TrustDeskLaw_law_767 : decode kY_TrustDeskLaw_law.2.1 767 = .ok (.invokevirtual 85, 3) := by decide +kernel
theorem lV_TrustDeskLaw_85 : mj_lV "TrustDeskLaw" 85 kY_TrustDeskModel_vote 3 := ⟨⟨(mj_in1 (List.mem_of_getElem? (i := 1945) (by decide +kernel)) rfl), (mj_in1 (List.mem_of_getElem? (i := 10) (by decide +kernel)) rfl), (mj_in1 (List.mem_of_getElem? (i := 1948) (by decide +kernel)) rfl), by decide, rfl, by decide⟩, (mj_in1 (List.mem_of_getElem? (i := 1946) (by decide +kernel)) rfl), (mj_in1 (List.mem_of_getElem? (i := 1947) (by decide +kernel)) rfl)⟩
theorem c_TrustDeskModel_vote_1 {g : mj_G} {l : Launch} {d nx : Nat} {M : mj_M} {x1 : Int32} {x2 : Int32} (h_99 : M 99 = some (.inr (13, [.int 0, .int 0, .int 0, .ref 100, .ref 101, .ref 102, .ref 103, .ref 104, .ref 105, .ref 106, .ref 107, .ref 108, .ref 109, .ref 110, .int 0, .int 0, .int 0, .int 0, .int 0, .int 0, .int 0, .int (-1), .int 0, .int 0, .int 0, .ref 111, .ref 112, .int 0, .ref 113, .ref 114, .ref 115, .int 0, .int 0, .ref 116, .ref 117, .ref 118, .ref 119, .ref 120, .ref 121, .ref 122, .ref 123, .ref 124, .ref 125, .ref 126, .ref 127, .ref 128, .ref 129, .ref 130, .ref 131, .int 0, .ref 132, .int 0, .ref 133, .int 0, .ref 134, .ref 135, .ref 136, .ref 137, .ref 138, .ref 139, .ref 140, .ref 141, .ref 142, .ref 143, .ref 144, .ref 145, .ref 146, .int 0, .long 0, .int 0, .int 0, .ref 147]))) : mj_Met g l kY_TrustDeskModel_vote (d + 1) [.ref 99, .int x1, .int x2, .int 0] M nx 0 0 (mj_E1 (some (.int 0)) (mj_up M 99 (.inr (13, [.int 0, .int 0, .int 0, .ref 100, .ref 101, .ref 102, .ref 103, .ref 104, .ref 105, .ref 106, .ref 107, .ref 108, .ref 109, .ref 110, .int 0, .int 0, .int 0, .int 0, .int 0, .int 0, .int 0, .int (-1), .int 0, .int 0, .int 0, .ref 111, .ref 112, .int 0, .ref 113, .ref 114, .ref 115, .int 0, .int 0, .ref 116, .ref 117, .ref 118, .ref 119, .ref 120, .ref 121, .ref 122, .ref 123, .ref 124, .ref 125, .ref 126, .ref 127, .ref 128, .ref 129, .ref 130, .ref 131, .int 0, .ref 132, .int 0, .ref 133, .int 0, .ref 134, .ref 135, .ref 136, .ref 137, .ref 138, .ref 139, .ref 140, .ref 141, .ref 142, .ref 143, .ref 144, .ref 145, .ref 146, .int 0, .long 0, .int 0, .int 0, .ref 147]))) nx) := by
  refine mj_enter (by decide) (Nat.le_of_ble_eq_true rfl) ?_
  refine mv_aload_n d_TrustDeskModel_vote_0 rfl rfl ?_
  refine mv_iconst (v := 0) d_TrustDeskModel_vote_1 (by decide) ?_
  refine mv_put (fs' := [.int 0, .int 0, .int 0, .ref 100, .ref 101, .ref 102, .ref 103, .ref 104, .ref 105, .ref 106, .ref 107, .ref 108, .ref 109, .ref 110, .int 0, .int 0, .int 0, .int 0, .int 0, .int 0, .int 0, .int (-1), .int 0, .int 0, .int 0, .ref 111, .ref 112, .int 0, .ref 113, .ref 114, .ref 115, .int 0, .int 0, .ref 116, .ref 117, .ref 118, .ref 119, .ref 120, .ref 121, .ref 122, .ref 123, .ref 124, .ref 125, .ref 126, .ref 127, .ref 128, .ref 129, .ref 130, .ref 131, .int 0, .ref 132, .int 0, .ref 133, .int 0, .ref 134, .ref 135, .ref 136, .ref 137, .ref 138, .ref 139, .ref 140, .ref 141, .ref 142, .ref 143, .ref 144, .ref 145, .ref 146, .int 0, .long 0, .int 0, .int 0, .ref 147]) d_TrustDeskModel_vote_2 p_TrustDeskModel_1_13 h_99 (Nat.le_of_ble_eq_true rfl) rfl rfl rfl ?_
  refine mv_aload_n d_TrustDeskModel_vote_5 rfl rfl ?_
  refine mv_iload_n d_TrustDeskModel_vote_6 rfl rfl ?_
  refine mv_callV_s (kc' := 0) (ks' := 0) [.int x1] [.int x1, .ref 99] d_TrustDeskModel_vote_7 lV_TrustDeskModel_506 (mj_up_self _ _ _) rfl (c_TrustDeskModel_isScheme_0 (d := d) (x1 := x1) (h_99 := (mj_up_self _ _ _))) rfl (Nat.le_of_ble_eq_true rfl) (Nat.le_of_ble_eq_true rfl) (Nat.le_of_ble_eq_true rfl) rfl ?_
  refine mv_if_eq_t (tgt := 29) d_TrustDeskModel_vote_10 (by decide) (by decide) ?_
  refine mv_iconst (v := 0) d_TrustDeskModel_vote_29 (by decide) ?_
  exact mv_iret d_TrustDeskModel_vote_30 rfl (by first | rfl | decide) ⟨rfl, rfl, rfl⟩
theorem d_TrustDeskLaw_law_770 : decode kY_TrustDeskLaw_law.2.1 770 = .ok (.if_icmp .eq 743, 3) := by decide +kernel
theorem d_TrustDeskLaw_law_732 : decode kY_TrustDeskLaw_law.2.1 732 = .ok (.iconst 1, 1) := by decide +kernel
theorem d_TrustDeskLaw_law_733 : decode kY_TrustDeskLaw_law.2.1 733 = .ok (.goto 4, 3) := by decide +kernel
theorem c_TrustDesk_vote_2 {g : mj_G} {l : Launch} {d nx : Nat} {M : mj_M} {x1 : Int32} {x2 : Int32} (h_64 : M 64 = some (.inr (12, [.ref 65, .ref 70, .ref 77, .ref 80, .ref 90, .ref 94, .ref 95, .ref 96, .ref 97, .ref 98, .int 0, .int 0, .int 0]))) (h_97 : M 97 = some (.inr (0, [.int 0, .ref 0, .int 0]))) : mj_Met g l kY_TrustDesk_vote (d + 2) [.ref 64, .int x1, .int x2, .int 1] M nx 0 0 (mj_E1 (some (.int 0)) M nx) := by
  refine mj_enter (by decide) (Nat.le_of_ble_eq_true rfl) ?_
  refine mv_aload_n d_TrustDesk_vote_0 rfl rfl ?_
  refine mv_iload_n d_TrustDesk_vote_1 rfl rfl ?_
  refine mv_callV_s (kc' := 0) (ks' := 0) [.int x1] [.int x1, .ref 64] d_TrustDesk_vote_2 lV_TrustDesk_280 h_64 rfl (c_TrustDesk_schemeAt_0 (d := d) (x1 := x1) (h_64 := h_64) (h_97 := h_97)) rfl (Nat.le_of_ble_eq_true rfl) (Nat.le_of_ble_eq_true rfl) (Nat.le_of_ble_eq_true rfl) rfl ?_
  refine mv_astoreN (lv' := [(4, .null), (0, .ref 64), (1, .int x1), (2, .int x2), (3, .int 1)]) d_TrustDesk_vote_5 (by decide) rfl ?_
  refine mv_aloadN d_TrustDesk_vote_7 rfl ?_
  refine mv_ifnullN (tgt := 37) d_TrustDesk_vote_9 (by decide) ?_
  refine mv_iconst (v := 0) d_TrustDesk_vote_37 (by decide) ?_
  exact mv_iret d_TrustDesk_vote_38 rfl (by first | rfl | decide) ⟨rfl, rfl, rfl⟩
theorem d_TrustDeskLaw_law_762 : decode kY_TrustDeskLaw_law.2.1 762 = .ok (.iconst 1, 1) := by decide +kernel
theorem d_TrustDeskLaw_law_763 : decode kY_TrustDeskLaw_law.2.1 763 = .ok (.goto 4, 3) := by decide +kernel
theorem c_TrustDeskModel_vote_2 {g : mj_G} {l : Launch} {d nx : Nat} {M : mj_M} {x1 : Int32} {x2 : Int32} (h_99 : M 99 = some (.inr (13, [.int 0, .int 0, .int 0, .ref 100, .ref 101, .ref 102, .ref 103, .ref 104, .ref 105, .ref 106, .ref 107, .ref 108, .ref 109, .ref 110, .int 0, .int 0, .int 0, .int 0, .int 0, .int 0, .int 0, .int (-1), .int 0, .int 0, .int 0, .ref 111, .ref 112, .int 0, .ref 113, .ref 114, .ref 115, .int 0, .int 0, .ref 116, .ref 117, .ref 118, .ref 119, .ref 120, .ref 121, .ref 122, .ref 123, .ref 124, .ref 125, .ref 126, .ref 127, .ref 128, .ref 129, .ref 130, .ref 131, .int 0, .ref 132, .int 0, .ref 133, .int 0, .ref 134, .ref 135, .ref 136, .ref 137, .ref 138, .ref 139, .ref 140, .ref 141, .ref 142, .ref 143, .ref 144, .ref 145, .ref 146, .int 0, .long 0, .int 0, .int 0, .ref 147]))) : mj_Met g l kY_TrustDeskModel_vote (d + 1) [.ref 99, .int x1, .int x2, .int 1] M nx 0 0 (mj_E1 (some (.int 0)) (mj_up M 99 (.inr (13, [.int 0, .int 0, .int 0, .ref 100, .ref 101, .ref 102, .ref 103, .ref 104, .ref 105, .ref 106, .ref 107, .ref 108, .ref 109, .ref 110, .int 0, .int 0, .int 0, .int 0, .int 0, .int 0, .int 0, .int (-1), .int 0, .int 0, .int 0, .ref 111, .ref 112, .int 0, .ref 113, .ref 114, .ref 115, .int 0, .int 0, .ref 116, .ref 117, .ref 118, .ref 119, .ref 120, .ref 121, .ref 122, .ref 123, .ref 124, .ref 125, .ref 126, .ref 127, .ref 128, .ref 129, .ref 130, .ref 131, .int 0, .ref 132, .int 0, .ref 133, .int 0, .ref 134, .ref 135, .ref 136, .ref 137, .ref 138, .ref 139, .ref 140, .ref 141, .ref 142, .ref 143, .ref 144, .ref 145, .ref 146, .int 0, .long 0, .int 0, .int 0, .ref 147]))) nx) := by
  refine mj_enter (by decide) (Nat.le_of_ble_eq_true rfl) ?_
  refine mv_aload_n d_TrustDeskModel_vote_0 rfl rfl ?_
  refine mv_iconst (v := 0) d_TrustDeskModel_vote_1 (by decide) ?_
  refine mv_put (fs' := [.int 0, .int 0, .int 0, .ref 100, .ref 101, .ref 102, .ref 103, .ref 104, .ref 105, .ref 106, .ref 107, .ref 108, .ref 109, .ref 110, .int 0, .int 0, .int 0, .int 0, .int 0, .int 0, .int 0, .int (-1), .int 0, .int 0, .int 0, .ref 111, .ref 112, .int 0, .ref 113, .ref 114, .ref 115, .int 0, .int 0, .ref 116, .ref 117, .ref 118, .ref 119, .ref 120, .ref 121, .ref 122, .ref 123, .ref 124, .ref 125, .ref 126, .ref 127, .ref 128, .ref 129, .ref 130, .ref 131, .int 0, .ref 132, .int 0, .ref 133, .int 0, .ref 134, .ref 135, .ref 136, .ref 137, .ref 138, .ref 139, .ref 140, .ref 141, .ref 142, .ref 143, .ref 144, .ref 145, .ref 146, .int 0, .long 0, .int 0, .int 0, .ref 147]) d_TrustDeskModel_vote_2 p_TrustDeskModel_1_13 h_99 (Nat.le_of_ble_eq_true rfl) rfl rfl rfl ?_
  refine mv_aload_n d_TrustDeskModel_vote_5 rfl rfl ?_
  refine mv_iload_n d_TrustDeskModel_vote_6 rfl rfl ?_
  refine mv_callV_s (kc' := 0) (ks' := 0) [.int x1] [.int x1, .ref 99] d_TrustDeskModel_vote_7 lV_TrustDeskModel_506 (mj_up_self _ _ _) rfl (c_TrustDeskModel_isScheme_0 (d := d) (x1 := x1) (h_99 := (mj_up_self _ _ _))) rfl (Nat.le_of_ble_eq_true rfl) (Nat.le_of_ble_eq_true rfl) (Nat.le_of_ble_eq_true rfl) rfl ?_
  refine mv_if_eq_t (tgt := 29) d_TrustDeskModel_vote_10 (by decide) (by decide) ?_
  refine mv_iconst (v := 0) d_TrustDeskModel_vote_29 (by decide) ?_
  exact mv_iret d_TrustDeskModel_vote_30 rfl (by first | rfl | decide) ⟨rfl, rfl, rfl⟩
theorem lw_case_14 {g : mj_G} {l : Launch} {d nx : Nat} {M : mj_M} (h_64 : M 64 = some (.inr (12, [.ref 65, .ref 70, .ref 77, .ref 80, .ref 90, .ref 94, .ref 95, .ref 96, .ref 97, .ref 98, .int 0, .int 0, .int 0]))) (h_97 : M 97 = some (.inr (0, [.int 0, .ref 0, .int 0]))) (h_99 : M 99 = some (.inr (13, [.int 0, .int 0, .int 0, .ref 100, .ref 101, .ref 102, .ref 103, .ref 104, .ref 105, .ref 106, .ref 107, .ref 108, .ref 109, .ref 110, .int 0, .int 0, .int 0, .int 0, .int 0, .int 0, .int 0, .int (-1), .int 0, .int 0, .int 0, .ref 111, .ref 112, .int 0, .ref 113, .ref 114, .ref 115, .int 0, .int 0, .ref 116, .ref 117, .ref 118, .ref 119, .ref 120, .ref 121, .ref 122, .ref 123, .ref 124, .ref 125, .ref 126, .ref 127, .ref 128, .ref 129, .ref 130, .ref 131, .int 0, .ref 132, .int 0, .ref 133, .int 0, .ref 134, .ref 135, .ref 136, .ref 137, .ref 138, .ref 139, .ref 140, .ref 141, .ref 142, .ref 143, .ref 144, .ref 145, .ref 146, .int 0, .long 0, .int 0, .int 0, .ref 147]))) (hL : mj_L g = 6) : mj_V g l kY_TrustDeskLaw_law (d + 9) 710 [(4, .int 0), (3, .ref 148), (2, .ref 99), (1, .ref 64), (0, .ref 50)] [] M 149 6 241 (fun r _ _ => r = some (.int 1)) := by
  refine mv_aload_n d_TrustDeskLaw_law_710 rfl rfl ?_
  refine mv_aload_n d_TrustDeskLaw_law_711 rfl rfl ?_
  refine mv_iload d_TrustDeskLaw_law_712 rfl ?_
  refine mv_iconst (v := 1) d_TrustDeskLaw_law_714 (by decide) ?_
  refine mv_iaddv (v := 1) d_TrustDeskLaw_law_715 (by decide) ?_
  refine mv_sld (v := (mj_xs g 1)) d_TrustDeskLaw_law_716 (by rw [hL]; unfold vp_in; decide) rfl ?_
  refine mv_aload_n d_TrustDeskLaw_law_717 rfl rfl ?_
  refine mv_iload d_TrustDeskLaw_law_718 rfl ?_
  refine mv_iconst (v := 2) d_TrustDeskLaw_law_720 (by decide) ?_
  refine mv_iaddv (v := 2) d_TrustDeskLaw_law_721 (by decide) ?_
  refine mv_sld (v := (mj_xs g 2)) d_TrustDeskLaw_law_722 (by rw [hL]; unfold vp_in; decide) rfl ?_
  refine mv_aload_n d_TrustDeskLaw_law_723 rfl rfl ?_
  refine mv_iload d_TrustDeskLaw_law_724 rfl ?_
  refine mv_iconst (v := 3) d_TrustDeskLaw_law_726 (by decide) ?_
  refine mv_iaddv (v := 3) d_TrustDeskLaw_law_727 (by decide) ?_
  refine mv_sld (v := (mj_xs g 3)) d_TrustDeskLaw_law_728 (by rw [hL]; unfold vp_in; decide) rfl ?_
  refine mv_if_eqZ (tgt := 736) (a := (mj_xs g 3).toInt) d_TrustDeskLaw_law_729 (by decide) rfl (fun b1 => ?_) (fun b1 => ?_)
  · refine mv_iconst (v := 0) d_TrustDeskLaw_law_736 (by decide) ?_
    refine mv_callV_s (kc' := 6) (ks' := 241) [.int (mj_xs g 1), .int (mj_xs g 2), .int 0] [.int 0, .int (mj_xs g 2), .int (mj_xs g 1), .ref 64] d_TrustDeskLaw_law_737 lV_TrustDeskLaw_81 h_64 rfl (c_TrustDesk_vote_1 (d := (d + 6)) (x1 := (mj_xs g 1)) (x2 := (mj_xs g 2)) (h_64 := h_64) (h_97 := h_97)) rfl (Nat.le_of_ble_eq_true rfl) (Nat.le_of_ble_eq_true rfl) (Nat.le_of_ble_eq_true rfl) rfl ?_
    refine mv_aload_n d_TrustDeskLaw_law_740 rfl rfl ?_
    refine mv_aload_n d_TrustDeskLaw_law_741 rfl rfl ?_
    refine mv_iload d_TrustDeskLaw_law_742 rfl ?_
    refine mv_iconst (v := 1) d_TrustDeskLaw_law_744 (by decide) ?_
    refine mv_iaddv (v := 1) d_TrustDeskLaw_law_745 (by decide) ?_
    refine mv_sld (v := (mj_xs g 1)) d_TrustDeskLaw_law_746 (by rw [hL]; unfold vp_in; decide) rfl ?_
    refine mv_aload_n d_TrustDeskLaw_law_747 rfl rfl ?_
    refine mv_iload d_TrustDeskLaw_law_748 rfl ?_
    refine mv_iconst (v := 2) d_TrustDeskLaw_law_750 (by decide) ?_
    refine mv_iaddv (v := 2) d_TrustDeskLaw_law_751 (by decide) ?_
    refine mv_sld (v := (mj_xs g 2)) d_TrustDeskLaw_law_752 (by rw [hL]; unfold vp_in; decide) rfl ?_
    refine mv_aload_n d_TrustDeskLaw_law_753 rfl rfl ?_
    refine mv_iload d_TrustDeskLaw_law_754 rfl ?_
    refine mv_iconst (v := 3) d_TrustDeskLaw_law_756 (by decide) ?_
    refine mv_iaddv (v := 3) d_TrustDeskLaw_law_757 (by decide) ?_
    refine mv_sld (v := (mj_xs g 3)) d_TrustDeskLaw_law_758 (by rw [hL]; unfold vp_in; decide) rfl ?_
    refine mv_if_eqZ (tgt := 766) (a := (mj_xs g 3).toInt) d_TrustDeskLaw_law_759 (by decide) rfl (fun b2 => ?_) (fun b2 => absurd b2 (by omega))
    refine mv_iconst (v := 0) d_TrustDeskLaw_law_766 (by decide) ?_
    refine mv_callV_s (kc' := 6) (ks' := 241) [.int (mj_xs g 1), .int (mj_xs g 2), .int 0] [.int 0, .int (mj_xs g 2), .int (mj_xs g 1), .ref 99, .int 0] d_TrustDeskLaw_law_767 lV_TrustDeskLaw_85 h_99 rfl (c_TrustDeskModel_vote_1 (d := (d + 7)) (x1 := (mj_xs g 1)) (x2 := (mj_xs g 2)) (h_99 := h_99)) rfl (Nat.le_of_ble_eq_true rfl) (Nat.le_of_ble_eq_true rfl) (Nat.le_of_ble_eq_true rfl) rfl ?_
    refine mv_icmp_eq_t (tgt := 1513) d_TrustDeskLaw_law_770 (by decide) (by decide) ?_
    refine mv_iinc (v := 6) (lv' := [(4, .int 6), (3, .ref 148), (2, .ref 99), (1, .ref 64), (0, .ref 50)]) d_TrustDeskLaw_law_1513 rfl (by decide) (by decide) rfl ?_
    refine mv_goto (tgt := 23) d_TrustDeskLaw_law_1516 (by decide) ?_
    refine mv_iload d_TrustDeskLaw_law_23 rfl ?_
    refine mv_aload_n d_TrustDeskLaw_law_25 rfl rfl ?_
    refine mv_slen (v := 6) d_TrustDeskLaw_law_26 (by rw [hL]; rfl) ?_
    refine mv_bipush (v := 6) d_TrustDeskLaw_law_27 (by decide) ?_
    refine mv_isubv (v := 0) d_TrustDeskLaw_law_29 (by decide) ?_
    refine mv_icmp_gt_t (tgt := 1519) d_TrustDeskLaw_law_30 (by decide) (by decide) ?_
    refine mv_iconst (v := 1) d_TrustDeskLaw_law_1519 (by decide) ?_
    exact mv_iret d_TrustDeskLaw_law_1520 rfl (by first | rfl | decide) rfl
  · refine mv_iconst (v := 1) d_TrustDeskLaw_law_732 (by decide) ?_
    refine mv_goto (tgt := 737) d_TrustDeskLaw_law_733 (by decide) ?_
    refine mv_callV_s (kc' := 6) (ks' := 241) [.int (mj_xs g 1), .int (mj_xs g 2), .int 1] [.int 1, .int (mj_xs g 2), .int (mj_xs g 1), .ref 64] d_TrustDeskLaw_law_737 lV_TrustDeskLaw_81 h_64 rfl (c_TrustDesk_vote_2 (d := (d + 6)) (x1 := (mj_xs g 1)) (x2 := (mj_xs g 2)) (h_64 := h_64) (h_97 := h_97)) rfl (Nat.le_of_ble_eq_true rfl) (Nat.le_of_ble_eq_true rfl) (Nat.le_of_ble_eq_true rfl) rfl ?_
    refine mv_aload_n d_TrustDeskLaw_law_740 rfl rfl ?_
    refine mv_aload_n d_TrustDeskLaw_law_741 rfl rfl ?_
    refine mv_iload d_TrustDeskLaw_law_742 rfl ?_
    refine mv_iconst (v := 1) d_TrustDeskLaw_law_744 (by decide) ?_
    refine mv_iaddv (v := 1) d_TrustDeskLaw_law_745 (by decide) ?_
    refine mv_sld (v := (mj_xs g 1)) d_TrustDeskLaw_law_746 (by rw [hL]; unfold vp_in; decide) rfl ?_
    refine mv_aload_n d_TrustDeskLaw_law_747 rfl rfl ?_
    refine mv_iload d_TrustDeskLaw_law_748 rfl ?_
    refine mv_iconst (v := 2) d_TrustDeskLaw_law_750 (by decide) ?_
    refine mv_iaddv (v := 2) d_TrustDeskLaw_law_751 (by decide) ?_
    refine mv_sld (v := (mj_xs g 2)) d_TrustDeskLaw_law_752 (by rw [hL]; unfold vp_in; decide) rfl ?_
    refine mv_aload_n d_TrustDeskLaw_law_753 rfl rfl ?_
    refine mv_iload d_TrustDeskLaw_law_754 rfl ?_
    refine mv_iconst (v := 3) d_TrustDeskLaw_law_756 (by decide) ?_
    refine mv_iaddv (v := 3) d_TrustDeskLaw_law_757 (by decide) ?_
    refine mv_sld (v := (mj_xs g 3)) d_TrustDeskLaw_law_758 (by rw [hL]; unfold vp_in; decide) rfl ?_
    refine mv_if_eqZ (tgt := 766) (a := (mj_xs g 3).toInt) d_TrustDeskLaw_law_759 (by decide) rfl (fun b3 => ?_) (fun b3 => ?_)
    · refine mv_iconst (v := 0) d_TrustDeskLaw_law_766 (by decide) ?_
      refine mv_callV_s (kc' := 6) (ks' := 241) [.int (mj_xs g 1), .int (mj_xs g 2), .int 0] [.int 0, .int (mj_xs g 2), .int (mj_xs g 1), .ref 99, .int 0] d_TrustDeskLaw_law_767 lV_TrustDeskLaw_85 h_99 rfl (c_TrustDeskModel_vote_1 (d := (d + 7)) (x1 := (mj_xs g 1)) (x2 := (mj_xs g 2)) (h_99 := h_99)) rfl (Nat.le_of_ble_eq_true rfl) (Nat.le_of_ble_eq_true rfl) (Nat.le_of_ble_eq_true rfl) rfl ?_
      refine mv_icmp_eq_t (tgt := 1513) d_TrustDeskLaw_law_770 (by decide) (by decide) ?_
      refine mv_iinc (v := 6) (lv' := [(4, .int 6), (3, .ref 148), (2, .ref 99), (1, .ref 64), (0, .ref 50)]) d_TrustDeskLaw_law_1513 rfl (by decide) (by decide) rfl ?_
      refine mv_goto (tgt := 23) d_TrustDeskLaw_law_1516 (by decide) ?_
      refine mv_iload d_TrustDeskLaw_law_23 rfl ?_
      refine mv_aload_n d_TrustDeskLaw_law_25 rfl rfl ?_
      refine mv_slen (v := 6) d_TrustDeskLaw_law_26 (by rw [hL]; rfl) ?_
      refine mv_bipush (v := 6) d_TrustDeskLaw_law_27 (by decide) ?_
      refine mv_isubv (v := 0) d_TrustDeskLaw_law_29 (by decide) ?_
      refine mv_icmp_gt_t (tgt := 1519) d_TrustDeskLaw_law_30 (by decide) (by decide) ?_
      refine mv_iconst (v := 1) d_TrustDeskLaw_law_1519 (by decide) ?_
      exact mv_iret d_TrustDeskLaw_law_1520 rfl (by first | rfl | decide) rfl
    · refine mv_iconst (v := 1) d_TrustDeskLaw_law_762 (by decide) ?_
      refine mv_goto (tgt := 767) d_TrustDeskLaw_law_763 (by decide) ?_
      refine mv_callV_s (kc' := 6) (ks' := 241) [.int (mj_xs g 1), .int (mj_xs g 2), .int 1] [.int 1, .int (mj_xs g 2), .int (mj_xs g 1), .ref 99, .int 0] d_TrustDeskLaw_law_767 lV_TrustDeskLaw_85 h_99 rfl (c_TrustDeskModel_vote_2 (d := (d + 7)) (x1 := (mj_xs g 1)) (x2 := (mj_xs g 2)) (h_99 := h_99)) rfl (Nat.le_of_ble_eq_true rfl) (Nat.le_of_ble_eq_true rfl) (Nat.le_of_ble_eq_true rfl) rfl ?_
      refine mv_icmp_eq_t (tgt := 1513) d_TrustDeskLaw_law_770 (by decide) (by decide) ?_
      refine mv_iinc (v := 6) (lv' := [(4, .int 6), (3, .ref 148), (2, .ref 99), (1, .ref 64), (0, .ref 50)]) d_TrustDeskLaw_law_1513 rfl (by decide) (by decide) rfl ?_
      refine mv_goto (tgt := 23) d_TrustDeskLaw_law_1516 (by decide) ?_
      refine mv_iload d_TrustDeskLaw_law_23 rfl ?_
      refine mv_aload_n d_TrustDeskLaw_law_25 rfl rfl ?_
      refine mv_slen (v := 6) d_TrustDeskLaw_law_26 (by rw [hL]; rfl) ?_
      refine mv_bipush (v := 6) d_TrustDeskLaw_law_27 (by decide) ?_
      refine mv_isubv (v := 0) d_TrustDeskLaw_law_29 (by decide) ?_
      refine mv_icmp_gt_t (tgt := 1519) d_TrustDeskLaw_law_30 (by decide) (by decide) ?_
      refine mv_iconst (v := 1) d_TrustDeskLaw_law_1519 (by decide) ?_
      exact mv_iret d_TrustDeskLaw_law_1520 rfl (by first | rfl | decide) rfl
theorem d_TrustDeskLaw_law_775 : decode kY_TrustDeskLaw_law.2.1 775 = .ok (.aload_n 1, 1) := by decide +kernel
theorem d_TrustDeskLaw_law_776 : decode kY_TrustDeskLaw_law.2.1 776 = .ok (.aload_n 0, 1) := by decide +kernel
theorem d_TrustDeskLaw_law_777 : decode kY_TrustDeskLaw_law.2.1 777 = .ok (.iload 4, 2) := by decide +kernel
theorem d_TrustDeskLaw_law_779 : decode kY_TrustDeskLaw_law.2.1 779 = .ok (.iconst 1, 1) := by decide +kernel
theorem d_TrustDeskLaw_law_780 : decode kY_TrustDeskLaw_law.2.1 780 = .ok (.iadd, 1) := by decide +kernel
theorem d_TrustDeskLaw_law_781 : decode kY_TrustDeskLaw_law.2.1 781 = .ok (.iaload, 1) := by decide +kernel
theorem d_TrustDeskLaw_law_782 : decode kY_TrustDeskLaw_law.2.1 782 = .ok (.invokevirtual 86, 3) := by decide +kernel
theorem lV_TrustDeskLaw_86 : mj_lV "TrustDeskLaw" 86 kY_TrustDesk_settle 1 := ⟨⟨(mj_in1 (List.mem_of_getElem? (i := 1049) (by decide +kernel)) rfl), (mj_in1 (List.mem_of_getElem? (i := 1) (by decide +kernel)) rfl), (mj_in1 (List.mem_of_getElem? (i := 1052) (by decide +kernel)) rfl), by decide, rfl, by decide⟩, (mj_in1 (List.mem_of_getElem? (i := 1050) (by decide +kernel)) rfl), (mj_in1 (List.mem_of_getElem? (i := 1051) (by decide +kernel)) rfl)⟩
theorem d_TrustDeskLaw_law_785 : decode kY_TrustDeskLaw_law.2.1 785 = .ok (.aload_n 2, 1) := by decide +kernel
theorem d_TrustDeskLaw_law_786 : decode kY_TrustDeskLaw_law.2.1 786 = .ok (.aload_n 0, 1) := by decide +kernel
theorem d_TrustDeskLaw_law_787 : decode kY_TrustDeskLaw_law.2.1 787 = .ok (.iload 4, 2) := by decide +kernel
theorem d_TrustDeskLaw_law_789 : decode kY_TrustDeskLaw_law.2.1 789 = .ok (.iconst 1, 1) := by decide +kernel
theorem d_TrustDeskLaw_law_790 : decode kY_TrustDeskLaw_law.2.1 790 = .ok (.iadd, 1) := by decide +kernel
theorem d_TrustDeskLaw_law_791 : decode kY_TrustDeskLaw_law.2.1 791 = .ok (.iaload, 1) := by decide +kernel
theorem d_TrustDeskLaw_law_792 : decode kY_TrustDeskLaw_law.2.1 792 = .ok (.invokevirtual 89, 3) := by decide +kernel
theorem lV_TrustDeskLaw_89 : mj_lV "TrustDeskLaw" 89 kY_TrustDeskModel_settle 1 := ⟨⟨(mj_in1 (List.mem_of_getElem? (i := 1949) (by decide +kernel)) rfl), (mj_in1 (List.mem_of_getElem? (i := 10) (by decide +kernel)) rfl), (mj_in1 (List.mem_of_getElem? (i := 1952) (by decide +kernel)) rfl), by decide, rfl, by decide⟩, (mj_in1 (List.mem_of_getElem? (i := 1950) (by decide +kernel)) rfl), (mj_in1 (List.mem_of_getElem? (i := 1951) (by decide +kernel)) rfl)⟩
theorem d_TrustDeskLaw_law_795 : decode kY_TrustDeskLaw_law.2.1 795 = .ok (.if_icmp .eq 718, 3) := by decide +kernel
theorem lw_case_15 {g : mj_G} {l : Launch} {d nx : Nat} {M : mj_M} (h_64 : M 64 = some (.inr (12, [.ref 65, .ref 70, .ref 77, .ref 80, .ref 90, .ref 94, .ref 95, .ref 96, .ref 97, .ref 98, .int 0, .int 0, .int 0]))) (h_97 : M 97 = some (.inr (0, [.int 0, .ref 0, .int 0]))) (h_99 : M 99 = some (.inr (13, [.int 0, .int 0, .int 0, .ref 100, .ref 101, .ref 102, .ref 103, .ref 104, .ref 105, .ref 106, .ref 107, .ref 108, .ref 109, .ref 110, .int 0, .int 0, .int 0, .int 0, .int 0, .int 0, .int 0, .int (-1), .int 0, .int 0, .int 0, .ref 111, .ref 112, .int 0, .ref 113, .ref 114, .ref 115, .int 0, .int 0, .ref 116, .ref 117, .ref 118, .ref 119, .ref 120, .ref 121, .ref 122, .ref 123, .ref 124, .ref 125, .ref 126, .ref 127, .ref 128, .ref 129, .ref 130, .ref 131, .int 0, .ref 132, .int 0, .ref 133, .int 0, .ref 134, .ref 135, .ref 136, .ref 137, .ref 138, .ref 139, .ref 140, .ref 141, .ref 142, .ref 143, .ref 144, .ref 145, .ref 146, .int 0, .long 0, .int 0, .int 0, .ref 147]))) (hL : mj_L g = 6) : mj_V g l kY_TrustDeskLaw_law (d + 9) 775 [(4, .int 0), (3, .ref 148), (2, .ref 99), (1, .ref 64), (0, .ref 50)] [] M 149 6 241 (fun r _ _ => r = some (.int 1)) := by
  refine mv_aload_n d_TrustDeskLaw_law_775 rfl rfl ?_
  refine mv_aload_n d_TrustDeskLaw_law_776 rfl rfl ?_
  refine mv_iload d_TrustDeskLaw_law_777 rfl ?_
  refine mv_iconst (v := 1) d_TrustDeskLaw_law_779 (by decide) ?_
  refine mv_iaddv (v := 1) d_TrustDeskLaw_law_780 (by decide) ?_
  refine mv_sld (v := (mj_xs g 1)) d_TrustDeskLaw_law_781 (by rw [hL]; unfold vp_in; decide) rfl ?_
  refine mv_callV_s (kc' := 6) (ks' := 241) [.int (mj_xs g 1)] [.int (mj_xs g 1), .ref 64] d_TrustDeskLaw_law_782 lV_TrustDeskLaw_86 h_64 rfl (c_TrustDesk_settle_0 (d := (d + 6)) (x1 := (mj_xs g 1)) (h_64 := h_64) (h_97 := h_97)) rfl (Nat.le_of_ble_eq_true rfl) (Nat.le_of_ble_eq_true rfl) (Nat.le_of_ble_eq_true rfl) rfl ?_
  refine mv_aload_n d_TrustDeskLaw_law_785 rfl rfl ?_
  refine mv_aload_n d_TrustDeskLaw_law_786 rfl rfl ?_
  refine mv_iload d_TrustDeskLaw_law_787 rfl ?_
  refine mv_iconst (v := 1) d_TrustDeskLaw_law_789 (by decide) ?_
  refine mv_iaddv (v := 1) d_TrustDeskLaw_law_790 (by decide) ?_
  refine mv_sld (v := (mj_xs g 1)) d_TrustDeskLaw_law_791 (by rw [hL]; unfold vp_in; decide) rfl ?_
  refine mv_callV_s (kc' := 6) (ks' := 241) [.int (mj_xs g 1)] [.int (mj_xs g 1), .ref 99, .int (-1)] d_TrustDeskLaw_law_792 lV_TrustDeskLaw_89 h_99 rfl (c_TrustDeskModel_settle_0 (d := (d + 7)) (x1 := (mj_xs g 1)) (h_99 := h_99)) rfl (Nat.le_of_ble_eq_true rfl) (Nat.le_of_ble_eq_true rfl) (Nat.le_of_ble_eq_true rfl) rfl ?_
  refine mv_icmp_eq_t (tgt := 1513) d_TrustDeskLaw_law_795 (by decide) (by decide) ?_
  refine mv_iinc (v := 6) (lv' := [(4, .int 6), (3, .ref 148), (2, .ref 99), (1, .ref 64), (0, .ref 50)]) d_TrustDeskLaw_law_1513 rfl (by decide) (by decide) rfl ?_
  refine mv_goto (tgt := 23) d_TrustDeskLaw_law_1516 (by decide) ?_
  refine mv_iload d_TrustDeskLaw_law_23 rfl ?_
  refine mv_aload_n d_TrustDeskLaw_law_25 rfl rfl ?_
  refine mv_slen (v := 6) d_TrustDeskLaw_law_26 (by rw [hL]; rfl) ?_
  refine mv_bipush (v := 6) d_TrustDeskLaw_law_27 (by decide) ?_
  refine mv_isubv (v := 0) d_TrustDeskLaw_law_29 (by decide) ?_
  refine mv_icmp_gt_t (tgt := 1519) d_TrustDeskLaw_law_30 (by decide) (by decide) ?_
  refine mv_iconst (v := 1) d_TrustDeskLaw_law_1519 (by decide) ?_
  exact mv_iret d_TrustDeskLaw_law_1520 rfl (by first | rfl | decide) rfl
theorem d_TrustDeskLaw_law_800 : decode kY_TrustDeskLaw_law.2.1 800 = .ok (.aload_n 1, 1) := by decide +kernel
theorem d_TrustDeskLaw_law_801 : decode kY_TrustDeskLaw_law.2.1 801 = .ok (.aload_n 0, 1) := by decide +kernel
theorem d_TrustDeskLaw_law_802 : decode kY_TrustDeskLaw_law.2.1 802 = .ok (.iload 4, 2) := by decide +kernel
theorem d_TrustDeskLaw_law_804 : decode kY_TrustDeskLaw_law.2.1 804 = .ok (.iconst 1, 1) := by decide +kernel
theorem d_TrustDeskLaw_law_805 : decode kY_TrustDeskLaw_law.2.1 805 = .ok (.iadd, 1) := by decide +kernel
theorem d_TrustDeskLaw_law_806 : decode kY_TrustDeskLaw_law.2.1 806 = .ok (.iaload, 1) := by decide +kernel
theorem d_TrustDeskLaw_law_807 : decode kY_TrustDeskLaw_law.2.1 807 = .ok (.aload_n 0, 1) := by decide +kernel
theorem d_TrustDeskLaw_law_808 : decode kY_TrustDeskLaw_law.2.1 808 = .ok (.iload 4, 2) := by decide +kernel
theorem d_TrustDeskLaw_law_810 : decode kY_TrustDeskLaw_law.2.1 810 = .ok (.iconst 2, 1) := by decide +kernel
theorem d_TrustDeskLaw_law_811 : decode kY_TrustDeskLaw_law.2.1 811 = .ok (.iadd, 1) := by decide +kernel
theorem d_TrustDeskLaw_law_812 : decode kY_TrustDeskLaw_law.2.1 812 = .ok (.iaload, 1) := by decide +kernel
theorem d_TrustDeskLaw_law_813 : decode kY_TrustDeskLaw_law.2.1 813 = .ok (.invokevirtual 90, 3) := by decide +kernel
theorem lV_TrustDeskLaw_90 : mj_lV "TrustDeskLaw" 90 kY_TrustDesk_scheme 2 := ⟨⟨(mj_in1 (List.mem_of_getElem? (i := 1166) (by decide +kernel)) rfl), (mj_in1 (List.mem_of_getElem? (i := 1) (by decide +kernel)) rfl), (mj_in1 (List.mem_of_getElem? (i := 1169) (by decide +kernel)) rfl), by decide, rfl, by decide⟩, (mj_in1 (List.mem_of_getElem? (i := 1167) (by decide +kernel)) rfl), (mj_in1 (List.mem_of_getElem? (i := 1168) (by decide +kernel)) rfl)⟩
theorem d_TrustDeskLaw_law_816 : decode kY_TrustDeskLaw_law.2.1 816 = .ok (.aload_n 2, 1) := by decide +kernel
theorem d_TrustDeskLaw_law_817 : decode kY_TrustDeskLaw_law.2.1 817 = .ok (.aload_n 0, 1) := by decide +kernel
theorem d_TrustDeskLaw_law_818 : decode kY_TrustDeskLaw_law.2.1 818 = .ok (.iload 4, 2) := by decide +kernel
theorem d_TrustDeskLaw_law_820 : decode kY_TrustDeskLaw_law.2.1 820 = .ok (.iconst 1, 1) := by decide +kernel
theorem d_TrustDeskLaw_law_821 : decode kY_TrustDeskLaw_law.2.1 821 = .ok (.iadd, 1) := by decide +kernel
theorem d_TrustDeskLaw_law_822 : decode kY_TrustDeskLaw_law.2.1 822 = .ok (.iaload, 1) := by decide +kernel
theorem d_TrustDeskLaw_law_823 : decode kY_TrustDeskLaw_law.2.1 823 = .ok (.aload_n 0, 1) := by decide +kernel
theorem d_TrustDeskLaw_law_824 : decode kY_TrustDeskLaw_law.2.1 824 = .ok (.iload 4, 2) := by decide +kernel
theorem d_TrustDeskLaw_law_826 : decode kY_TrustDeskLaw_law.2.1 826 = .ok (.iconst 2, 1) := by decide +kernel
theorem d_TrustDeskLaw_law_827 : decode kY_TrustDeskLaw_law.2.1 827 = .ok (.iadd, 1) := by decide +kernel
theorem d_TrustDeskLaw_law_828 : decode kY_TrustDeskLaw_law.2.1 828 = .ok (.iaload, 1) := by decide +kernel
theorem d_TrustDeskLaw_law_829 : decode kY_TrustDeskLaw_law.2.1 829 = .ok (.invokevirtual 93, 3) := by decide +kernel
theorem lV_TrustDeskLaw_93 : mj_lV "TrustDeskLaw" 93 kY_TrustDeskModel_scheme 2 := ⟨⟨(mj_in1 (List.mem_of_getElem? (i := 1998) (by decide +kernel)) rfl), (mj_in1 (List.mem_of_getElem? (i := 10) (by decide +kernel)) rfl), (mj_in1 (List.mem_of_getElem? (i := 2001) (by decide +kernel)) rfl), by decide, rfl, by decide⟩, (mj_in1 (List.mem_of_getElem? (i := 1999) (by decide +kernel)) rfl), (mj_in1 (List.mem_of_getElem? (i := 2000) (by decide +kernel)) rfl)⟩
theorem d_TrustDeskLaw_law_832 : decode kY_TrustDeskLaw_law.2.1 832 = .ok (.if_icmp .eq 681, 3) := by decide +kernel
theorem lw_case_16 {g : mj_G} {l : Launch} {d nx : Nat} {M : mj_M} (h_64 : M 64 = some (.inr (12, [.ref 65, .ref 70, .ref 77, .ref 80, .ref 90, .ref 94, .ref 95, .ref 96, .ref 97, .ref 98, .int 0, .int 0, .int 0]))) (h_97 : M 97 = some (.inr (0, [.int 0, .ref 0, .int 0]))) (h_99 : M 99 = some (.inr (13, [.int 0, .int 0, .int 0, .ref 100, .ref 101, .ref 102, .ref 103, .ref 104, .ref 105, .ref 106, .ref 107, .ref 108, .ref 109, .ref 110, .int 0, .int 0, .int 0, .int 0, .int 0, .int 0, .int 0, .int (-1), .int 0, .int 0, .int 0, .ref 111, .ref 112, .int 0, .ref 113, .ref 114, .ref 115, .int 0, .int 0, .ref 116, .ref 117, .ref 118, .ref 119, .ref 120, .ref 121, .ref 122, .ref 123, .ref 124, .ref 125, .ref 126, .ref 127, .ref 128, .ref 129, .ref 130, .ref 131, .int 0, .ref 132, .int 0, .ref 133, .int 0, .ref 134, .ref 135, .ref 136, .ref 137, .ref 138, .ref 139, .ref 140, .ref 141, .ref 142, .ref 143, .ref 144, .ref 145, .ref 146, .int 0, .long 0, .int 0, .int 0, .ref 147]))) (hL : mj_L g = 6) : mj_V g l kY_TrustDeskLaw_law (d + 9) 800 [(4, .int 0), (3, .ref 148), (2, .ref 99), (1, .ref 64), (0, .ref 50)] [] M 149 6 241 (fun r _ _ => r = some (.int 1)) := by
  refine mv_aload_n d_TrustDeskLaw_law_800 rfl rfl ?_
  refine mv_aload_n d_TrustDeskLaw_law_801 rfl rfl ?_
  refine mv_iload d_TrustDeskLaw_law_802 rfl ?_
  refine mv_iconst (v := 1) d_TrustDeskLaw_law_804 (by decide) ?_
  refine mv_iaddv (v := 1) d_TrustDeskLaw_law_805 (by decide) ?_
  refine mv_sld (v := (mj_xs g 1)) d_TrustDeskLaw_law_806 (by rw [hL]; unfold vp_in; decide) rfl ?_
  refine mv_aload_n d_TrustDeskLaw_law_807 rfl rfl ?_
  refine mv_iload d_TrustDeskLaw_law_808 rfl ?_
  refine mv_iconst (v := 2) d_TrustDeskLaw_law_810 (by decide) ?_
  refine mv_iaddv (v := 2) d_TrustDeskLaw_law_811 (by decide) ?_
  refine mv_sld (v := (mj_xs g 2)) d_TrustDeskLaw_law_812 (by rw [hL]; unfold vp_in; decide) rfl ?_
  refine mv_callV_s (kc' := 6) (ks' := 241) [.int (mj_xs g 1), .int (mj_xs g 2)] [.int (mj_xs g 2), .int (mj_xs g 1), .ref 64] d_TrustDeskLaw_law_813 lV_TrustDeskLaw_90 h_64 rfl (c_TrustDesk_scheme_0 (d := (d + 6)) (x1 := (mj_xs g 1)) (x2 := (mj_xs g 2)) (h_64 := h_64) (h_97 := h_97)) rfl (Nat.le_of_ble_eq_true rfl) (Nat.le_of_ble_eq_true rfl) (Nat.le_of_ble_eq_true rfl) rfl ?_
  refine mv_aload_n d_TrustDeskLaw_law_816 rfl rfl ?_
  refine mv_aload_n d_TrustDeskLaw_law_817 rfl rfl ?_
  refine mv_iload d_TrustDeskLaw_law_818 rfl ?_
  refine mv_iconst (v := 1) d_TrustDeskLaw_law_820 (by decide) ?_
  refine mv_iaddv (v := 1) d_TrustDeskLaw_law_821 (by decide) ?_
  refine mv_sld (v := (mj_xs g 1)) d_TrustDeskLaw_law_822 (by rw [hL]; unfold vp_in; decide) rfl ?_
  refine mv_aload_n d_TrustDeskLaw_law_823 rfl rfl ?_
  refine mv_iload d_TrustDeskLaw_law_824 rfl ?_
  refine mv_iconst (v := 2) d_TrustDeskLaw_law_826 (by decide) ?_
  refine mv_iaddv (v := 2) d_TrustDeskLaw_law_827 (by decide) ?_
  refine mv_sld (v := (mj_xs g 2)) d_TrustDeskLaw_law_828 (by rw [hL]; unfold vp_in; decide) rfl ?_
  refine mv_callV_s (kc' := 6) (ks' := 241) [.int (mj_xs g 1), .int (mj_xs g 2)] [.int (mj_xs g 2), .int (mj_xs g 1), .ref 99, .int (-1)] d_TrustDeskLaw_law_829 lV_TrustDeskLaw_93 h_99 rfl (c_TrustDeskModel_scheme_0 (d := (d + 7)) (x1 := (mj_xs g 1)) (x2 := (mj_xs g 2)) (h_99 := h_99)) rfl (Nat.le_of_ble_eq_true rfl) (Nat.le_of_ble_eq_true rfl) (Nat.le_of_ble_eq_true rfl) rfl ?_
  refine mv_icmp_eq_t (tgt := 1513) d_TrustDeskLaw_law_832 (by decide) (by decide) ?_
  refine mv_iinc (v := 6) (lv' := [(4, .int 6), (3, .ref 148), (2, .ref 99), (1, .ref 64), (0, .ref 50)]) d_TrustDeskLaw_law_1513 rfl (by decide) (by decide) rfl ?_
  refine mv_goto (tgt := 23) d_TrustDeskLaw_law_1516 (by decide) ?_
  refine mv_iload d_TrustDeskLaw_law_23 rfl ?_
  refine mv_aload_n d_TrustDeskLaw_law_25 rfl rfl ?_
  refine mv_slen (v := 6) d_TrustDeskLaw_law_26 (by rw [hL]; rfl) ?_
  refine mv_bipush (v := 6) d_TrustDeskLaw_law_27 (by decide) ?_
  refine mv_isubv (v := 0) d_TrustDeskLaw_law_29 (by decide) ?_
  refine mv_icmp_gt_t (tgt := 1519) d_TrustDeskLaw_law_30 (by decide) (by decide) ?_
  refine mv_iconst (v := 1) d_TrustDeskLaw_law_1519 (by decide) ?_
  exact mv_iret d_TrustDeskLaw_law_1520 rfl (by first | rfl | decide) rfl
theorem d_TrustDeskLaw_law_905 : decode kY_TrustDeskLaw_law.2.1 905 = .ok (.aload_n 1, 1) := by decide +kernel
theorem d_TrustDeskLaw_law_906 : decode kY_TrustDeskLaw_law.2.1 906 = .ok (.aload_n 0, 1) := by decide +kernel
theorem d_TrustDeskLaw_law_907 : decode kY_TrustDeskLaw_law.2.1 907 = .ok (.iload 4, 2) := by decide +kernel
theorem d_TrustDeskLaw_law_909 : decode kY_TrustDeskLaw_law.2.1 909 = .ok (.iconst 1, 1) := by decide +kernel
theorem d_TrustDeskLaw_law_910 : decode kY_TrustDeskLaw_law.2.1 910 = .ok (.iadd, 1) := by decide +kernel
theorem d_TrustDeskLaw_law_911 : decode kY_TrustDeskLaw_law.2.1 911 = .ok (.iaload, 1) := by decide +kernel
theorem d_TrustDeskLaw_law_912 : decode kY_TrustDeskLaw_law.2.1 912 = .ok (.invokevirtual 103, 3) := by decide +kernel
theorem lV_TrustDeskLaw_103 : mj_lV "TrustDeskLaw" 103 kY_TrustDesk_coin 1 := ⟨⟨(mj_in1 (List.mem_of_getElem? (i := 1170) (by decide +kernel)) rfl), (mj_in1 (List.mem_of_getElem? (i := 1) (by decide +kernel)) rfl), (mj_in1 (List.mem_of_getElem? (i := 1173) (by decide +kernel)) rfl), by decide, rfl, by decide⟩, (mj_in1 (List.mem_of_getElem? (i := 1171) (by decide +kernel)) rfl), (mj_in1 (List.mem_of_getElem? (i := 1172) (by decide +kernel)) rfl)⟩
theorem d_TrustDeskLaw_law_915 : decode kY_TrustDeskLaw_law.2.1 915 = .ok (.aload_n 2, 1) := by decide +kernel
theorem d_TrustDeskLaw_law_916 : decode kY_TrustDeskLaw_law.2.1 916 = .ok (.aload_n 0, 1) := by decide +kernel
theorem d_TrustDeskLaw_law_917 : decode kY_TrustDeskLaw_law.2.1 917 = .ok (.iload 4, 2) := by decide +kernel
theorem d_TrustDeskLaw_law_919 : decode kY_TrustDeskLaw_law.2.1 919 = .ok (.iconst 1, 1) := by decide +kernel
theorem d_TrustDeskLaw_law_920 : decode kY_TrustDeskLaw_law.2.1 920 = .ok (.iadd, 1) := by decide +kernel
theorem d_TrustDeskLaw_law_921 : decode kY_TrustDeskLaw_law.2.1 921 = .ok (.iaload, 1) := by decide +kernel
theorem d_TrustDeskLaw_law_922 : decode kY_TrustDeskLaw_law.2.1 922 = .ok (.invokevirtual 107, 3) := by decide +kernel
theorem lV_TrustDeskLaw_107 : mj_lV "TrustDeskLaw" 107 kY_TrustDeskModel_coin 1 := ⟨⟨(mj_in1 (List.mem_of_getElem? (i := 2062) (by decide +kernel)) rfl), (mj_in1 (List.mem_of_getElem? (i := 10) (by decide +kernel)) rfl), (mj_in1 (List.mem_of_getElem? (i := 2065) (by decide +kernel)) rfl), by decide, rfl, by decide⟩, (mj_in1 (List.mem_of_getElem? (i := 2063) (by decide +kernel)) rfl), (mj_in1 (List.mem_of_getElem? (i := 2064) (by decide +kernel)) rfl)⟩
theorem d_TrustDeskLaw_law_925 : decode kY_TrustDeskLaw_law.2.1 925 = .ok (.lcmp, 1) := by decide +kernel
theorem d_TrustDeskLaw_law_926 : decode kY_TrustDeskLaw_law.2.1 926 = .ok (.ifCond .eq 587, 3) := by decide +kernel
theorem lw_case_18 {g : mj_G} {l : Launch} {d nx : Nat} {M : mj_M} (h_64 : M 64 = some (.inr (12, [.ref 65, .ref 70, .ref 77, .ref 80, .ref 90, .ref 94, .ref 95, .ref 96, .ref 97, .ref 98, .int 0, .int 0, .int 0]))) (h_95 : M 95 = some (.inr (0, [.int 0, .ref 0, .int 0]))) (h_99 : M 99 = some (.inr (13, [.int 0, .int 0, .int 0, .ref 100, .ref 101, .ref 102, .ref 103, .ref 104, .ref 105, .ref 106, .ref 107, .ref 108, .ref 109, .ref 110, .int 0, .int 0, .int 0, .int 0, .int 0, .int 0, .int 0, .int (-1), .int 0, .int 0, .int 0, .ref 111, .ref 112, .int 0, .ref 113, .ref 114, .ref 115, .int 0, .int 0, .ref 116, .ref 117, .ref 118, .ref 119, .ref 120, .ref 121, .ref 122, .ref 123, .ref 124, .ref 125, .ref 126, .ref 127, .ref 128, .ref 129, .ref 130, .ref 131, .int 0, .ref 132, .int 0, .ref 133, .int 0, .ref 134, .ref 135, .ref 136, .ref 137, .ref 138, .ref 139, .ref 140, .ref 141, .ref 142, .ref 143, .ref 144, .ref 145, .ref 146, .int 0, .long 0, .int 0, .int 0, .ref 147]))) (hL : mj_L g = 6) : mj_V g l kY_TrustDeskLaw_law (d + 9) 905 [(4, .int 0), (3, .ref 148), (2, .ref 99), (1, .ref 64), (0, .ref 50)] [] M 149 6 241 (fun r _ _ => r = some (.int 1)) := by
  refine mv_aload_n d_TrustDeskLaw_law_905 rfl rfl ?_
  refine mv_aload_n d_TrustDeskLaw_law_906 rfl rfl ?_
  refine mv_iload d_TrustDeskLaw_law_907 rfl ?_
  refine mv_iconst (v := 1) d_TrustDeskLaw_law_909 (by decide) ?_
  refine mv_iaddv (v := 1) d_TrustDeskLaw_law_910 (by decide) ?_
  refine mv_sld (v := (mj_xs g 1)) d_TrustDeskLaw_law_911 (by rw [hL]; unfold vp_in; decide) rfl ?_
  refine mv_callV_s (kc' := 6) (ks' := 241) [.int (mj_xs g 1)] [.int (mj_xs g 1), .ref 64] d_TrustDeskLaw_law_912 lV_TrustDeskLaw_103 h_64 rfl (c_TrustDesk_coin_0 (d := (d + 6)) (x1 := (mj_xs g 1)) (h_64 := h_64) (h_95 := h_95)) rfl (Nat.le_of_ble_eq_true rfl) (Nat.le_of_ble_eq_true rfl) (Nat.le_of_ble_eq_true rfl) rfl ?_
  refine mv_aload_n d_TrustDeskLaw_law_915 rfl rfl ?_
  refine mv_aload_n d_TrustDeskLaw_law_916 rfl rfl ?_
  refine mv_iload d_TrustDeskLaw_law_917 rfl ?_
  refine mv_iconst (v := 1) d_TrustDeskLaw_law_919 (by decide) ?_
  refine mv_iaddv (v := 1) d_TrustDeskLaw_law_920 (by decide) ?_
  refine mv_sld (v := (mj_xs g 1)) d_TrustDeskLaw_law_921 (by rw [hL]; unfold vp_in; decide) rfl ?_
  refine mv_callV_s (kc' := 6) (ks' := 241) [.int (mj_xs g 1)] [.int (mj_xs g 1), .ref 99, .long (-1)] d_TrustDeskLaw_law_922 lV_TrustDeskLaw_107 h_99 rfl (c_TrustDeskModel_coin_0 (d := (d + 7)) (x1 := (mj_xs g 1)) (h_99 := h_99)) rfl (Nat.le_of_ble_eq_true rfl) (Nat.le_of_ble_eq_true rfl) (Nat.le_of_ble_eq_true rfl) rfl ?_
  refine mv_leq_t (tgt := 1513) d_TrustDeskLaw_law_925 d_TrustDeskLaw_law_926 (by decide) ?_
  refine mv_iinc (v := 6) (lv' := [(4, .int 6), (3, .ref 148), (2, .ref 99), (1, .ref 64), (0, .ref 50)]) d_TrustDeskLaw_law_1513 rfl (by decide) (by decide) rfl ?_
  refine mv_goto (tgt := 23) d_TrustDeskLaw_law_1516 (by decide) ?_
  refine mv_iload d_TrustDeskLaw_law_23 rfl ?_
  refine mv_aload_n d_TrustDeskLaw_law_25 rfl rfl ?_
  refine mv_slen (v := 6) d_TrustDeskLaw_law_26 (by rw [hL]; rfl) ?_
  refine mv_bipush (v := 6) d_TrustDeskLaw_law_27 (by decide) ?_
  refine mv_isubv (v := 0) d_TrustDeskLaw_law_29 (by decide) ?_
  refine mv_icmp_gt_t (tgt := 1519) d_TrustDeskLaw_law_30 (by decide) (by decide) ?_
  refine mv_iconst (v := 1) d_TrustDeskLaw_law_1519 (by decide) ?_
  exact mv_iret d_TrustDeskLaw_law_1520 rfl (by first | rfl | decide) rfl
theorem d_TrustDeskLaw_law_931 : decode kY_TrustDeskLaw_law.2.1 931 = .ok (.aload_n 1, 1) := by decide +kernel
theorem d_TrustDeskLaw_law_932 : decode kY_TrustDeskLaw_law.2.1 932 = .ok (.aload_n 0, 1) := by decide +kernel
theorem d_TrustDeskLaw_law_933 : decode kY_TrustDeskLaw_law.2.1 933 = .ok (.iload 4, 2) := by decide +kernel
theorem d_TrustDeskLaw_law_935 : decode kY_TrustDeskLaw_law.2.1 935 = .ok (.iconst 1, 1) := by decide +kernel
theorem d_TrustDeskLaw_law_936 : decode kY_TrustDeskLaw_law.2.1 936 = .ok (.iadd, 1) := by decide +kernel
theorem d_TrustDeskLaw_law_937 : decode kY_TrustDeskLaw_law.2.1 937 = .ok (.iaload, 1) := by decide +kernel
theorem d_TrustDeskLaw_law_938 : decode kY_TrustDeskLaw_law.2.1 938 = .ok (.aload_n 0, 1) := by decide +kernel
theorem d_TrustDeskLaw_law_939 : decode kY_TrustDeskLaw_law.2.1 939 = .ok (.iload 4, 2) := by decide +kernel
theorem d_TrustDeskLaw_law_941 : decode kY_TrustDeskLaw_law.2.1 941 = .ok (.iconst 2, 1) := by decide +kernel
theorem d_TrustDeskLaw_law_942 : decode kY_TrustDeskLaw_law.2.1 942 = .ok (.iadd, 1) := by decide +kernel
theorem d_TrustDeskLaw_law_943 : decode kY_TrustDeskLaw_law.2.1 943 = .ok (.iaload, 1) := by decide +kernel
theorem d_TrustDeskLaw_law_944 : decode kY_TrustDeskLaw_law.2.1 944 = .ok (.aload_n 0, 1) := by decide +kernel
theorem d_TrustDeskLaw_law_945 : decode kY_TrustDeskLaw_law.2.1 945 = .ok (.iload 4, 2) := by decide +kernel
theorem d_TrustDeskLaw_law_947 : decode kY_TrustDeskLaw_law.2.1 947 = .ok (.iconst 3, 1) := by decide +kernel
theorem d_TrustDeskLaw_law_948 : decode kY_TrustDeskLaw_law.2.1 948 = .ok (.iadd, 1) := by decide +kernel
theorem d_TrustDeskLaw_law_949 : decode kY_TrustDeskLaw_law.2.1 949 = .ok (.iaload, 1) := by decide +kernel
theorem d_TrustDeskLaw_law_950 : decode kY_TrustDeskLaw_law.2.1 950 = .ok (.invokevirtual 108, 3) := by decide +kernel
theorem lV_TrustDeskLaw_108 : mj_lV "TrustDeskLaw" 108 kY_TrustDesk_income 3 := ⟨⟨(mj_in1 (List.mem_of_getElem? (i := 1175) (by decide +kernel)) rfl), (mj_in1 (List.mem_of_getElem? (i := 1) (by decide +kernel)) rfl), (mj_in1 (List.mem_of_getElem? (i := 1178) (by decide +kernel)) rfl), by decide, rfl, by decide⟩, (mj_in1 (List.mem_of_getElem? (i := 1176) (by decide +kernel)) rfl), (mj_in1 (List.mem_of_getElem? (i := 1177) (by decide +kernel)) rfl)⟩
theorem d_TrustDeskLaw_law_953 : decode kY_TrustDeskLaw_law.2.1 953 = .ok (.aload_n 2, 1) := by decide +kernel
theorem d_TrustDeskLaw_law_954 : decode kY_TrustDeskLaw_law.2.1 954 = .ok (.aload_n 0, 1) := by decide +kernel
theorem d_TrustDeskLaw_law_955 : decode kY_TrustDeskLaw_law.2.1 955 = .ok (.iload 4, 2) := by decide +kernel
theorem d_TrustDeskLaw_law_957 : decode kY_TrustDeskLaw_law.2.1 957 = .ok (.iconst 1, 1) := by decide +kernel
theorem d_TrustDeskLaw_law_958 : decode kY_TrustDeskLaw_law.2.1 958 = .ok (.iadd, 1) := by decide +kernel
theorem d_TrustDeskLaw_law_959 : decode kY_TrustDeskLaw_law.2.1 959 = .ok (.iaload, 1) := by decide +kernel
theorem d_TrustDeskLaw_law_960 : decode kY_TrustDeskLaw_law.2.1 960 = .ok (.aload_n 0, 1) := by decide +kernel
theorem d_TrustDeskLaw_law_961 : decode kY_TrustDeskLaw_law.2.1 961 = .ok (.iload 4, 2) := by decide +kernel
theorem d_TrustDeskLaw_law_963 : decode kY_TrustDeskLaw_law.2.1 963 = .ok (.iconst 2, 1) := by decide +kernel
theorem d_TrustDeskLaw_law_964 : decode kY_TrustDeskLaw_law.2.1 964 = .ok (.iadd, 1) := by decide +kernel
theorem d_TrustDeskLaw_law_965 : decode kY_TrustDeskLaw_law.2.1 965 = .ok (.iaload, 1) := by decide +kernel
theorem d_TrustDeskLaw_law_966 : decode kY_TrustDeskLaw_law.2.1 966 = .ok (.aload_n 0, 1) := by decide +kernel
theorem d_TrustDeskLaw_law_967 : decode kY_TrustDeskLaw_law.2.1 967 = .ok (.iload 4, 2) := by decide +kernel
theorem d_TrustDeskLaw_law_969 : decode kY_TrustDeskLaw_law.2.1 969 = .ok (.iconst 3, 1) := by decide +kernel
theorem d_TrustDeskLaw_law_970 : decode kY_TrustDeskLaw_law.2.1 970 = .ok (.iadd, 1) := by decide +kernel
theorem d_TrustDeskLaw_law_971 : decode kY_TrustDeskLaw_law.2.1 971 = .ok (.iaload, 1) := by decide +kernel
theorem d_TrustDeskLaw_law_972 : decode kY_TrustDeskLaw_law.2.1 972 = .ok (.invokevirtual 111, 3) := by decide +kernel
theorem lV_TrustDeskLaw_111 : mj_lV "TrustDeskLaw" 111 kY_TrustDeskModel_income 3 := ⟨⟨(mj_in1 (List.mem_of_getElem? (i := 2066) (by decide +kernel)) rfl), (mj_in1 (List.mem_of_getElem? (i := 10) (by decide +kernel)) rfl), (mj_in1 (List.mem_of_getElem? (i := 2069) (by decide +kernel)) rfl), by decide, rfl, by decide⟩, (mj_in1 (List.mem_of_getElem? (i := 2067) (by decide +kernel)) rfl), (mj_in1 (List.mem_of_getElem? (i := 2068) (by decide +kernel)) rfl)⟩
theorem d_TrustDeskLaw_law_975 : decode kY_TrustDeskLaw_law.2.1 975 = .ok (.if_icmp .eq 538, 3) := by decide +kernel
theorem lw_case_19 {g : mj_G} {l : Launch} {d nx : Nat} {M : mj_M} (h_64 : M 64 = some (.inr (12, [.ref 65, .ref 70, .ref 77, .ref 80, .ref 90, .ref 94, .ref 95, .ref 96, .ref 97, .ref 98, .int 0, .int 0, .int 0]))) (h_95 : M 95 = some (.inr (0, [.int 0, .ref 0, .int 0]))) (h_99 : M 99 = some (.inr (13, [.int 0, .int 0, .int 0, .ref 100, .ref 101, .ref 102, .ref 103, .ref 104, .ref 105, .ref 106, .ref 107, .ref 108, .ref 109, .ref 110, .int 0, .int 0, .int 0, .int 0, .int 0, .int 0, .int 0, .int (-1), .int 0, .int 0, .int 0, .ref 111, .ref 112, .int 0, .ref 113, .ref 114, .ref 115, .int 0, .int 0, .ref 116, .ref 117, .ref 118, .ref 119, .ref 120, .ref 121, .ref 122, .ref 123, .ref 124, .ref 125, .ref 126, .ref 127, .ref 128, .ref 129, .ref 130, .ref 131, .int 0, .ref 132, .int 0, .ref 133, .int 0, .ref 134, .ref 135, .ref 136, .ref 137, .ref 138, .ref 139, .ref 140, .ref 141, .ref 142, .ref 143, .ref 144, .ref 145, .ref 146, .int 0, .long 0, .int 0, .int 0, .ref 147]))) (hL : mj_L g = 6) : mj_V g l kY_TrustDeskLaw_law (d + 9) 931 [(4, .int 0), (3, .ref 148), (2, .ref 99), (1, .ref 64), (0, .ref 50)] [] M 149 6 241 (fun r _ _ => r = some (.int 1)) := by
  refine mv_aload_n d_TrustDeskLaw_law_931 rfl rfl ?_
  refine mv_aload_n d_TrustDeskLaw_law_932 rfl rfl ?_
  refine mv_iload d_TrustDeskLaw_law_933 rfl ?_
  refine mv_iconst (v := 1) d_TrustDeskLaw_law_935 (by decide) ?_
  refine mv_iaddv (v := 1) d_TrustDeskLaw_law_936 (by decide) ?_
  refine mv_sld (v := (mj_xs g 1)) d_TrustDeskLaw_law_937 (by rw [hL]; unfold vp_in; decide) rfl ?_
  refine mv_aload_n d_TrustDeskLaw_law_938 rfl rfl ?_
  refine mv_iload d_TrustDeskLaw_law_939 rfl ?_
  refine mv_iconst (v := 2) d_TrustDeskLaw_law_941 (by decide) ?_
  refine mv_iaddv (v := 2) d_TrustDeskLaw_law_942 (by decide) ?_
  refine mv_sld (v := (mj_xs g 2)) d_TrustDeskLaw_law_943 (by rw [hL]; unfold vp_in; decide) rfl ?_
  refine mv_aload_n d_TrustDeskLaw_law_944 rfl rfl ?_
  refine mv_iload d_TrustDeskLaw_law_945 rfl ?_
  refine mv_iconst (v := 3) d_TrustDeskLaw_law_947 (by decide) ?_
  refine mv_iaddv (v := 3) d_TrustDeskLaw_law_948 (by decide) ?_
  refine mv_sld (v := (mj_xs g 3)) d_TrustDeskLaw_law_949 (by rw [hL]; unfold vp_in; decide) rfl ?_
  refine mv_callV_s (kc' := 6) (ks' := 241) [.int (mj_xs g 1), .int (mj_xs g 2), .int (mj_xs g 3)] [.int (mj_xs g 3), .int (mj_xs g 2), .int (mj_xs g 1), .ref 64] d_TrustDeskLaw_law_950 lV_TrustDeskLaw_108 h_64 rfl (c_TrustDesk_income_0 (d := (d + 6)) (x1 := (mj_xs g 1)) (x2 := (mj_xs g 2)) (x3 := (mj_xs g 3)) (h_64 := h_64) (h_95 := h_95)) rfl (Nat.le_of_ble_eq_true rfl) (Nat.le_of_ble_eq_true rfl) (Nat.le_of_ble_eq_true rfl) rfl ?_
  refine mv_aload_n d_TrustDeskLaw_law_953 rfl rfl ?_
  refine mv_aload_n d_TrustDeskLaw_law_954 rfl rfl ?_
  refine mv_iload d_TrustDeskLaw_law_955 rfl ?_
  refine mv_iconst (v := 1) d_TrustDeskLaw_law_957 (by decide) ?_
  refine mv_iaddv (v := 1) d_TrustDeskLaw_law_958 (by decide) ?_
  refine mv_sld (v := (mj_xs g 1)) d_TrustDeskLaw_law_959 (by rw [hL]; unfold vp_in; decide) rfl ?_
  refine mv_aload_n d_TrustDeskLaw_law_960 rfl rfl ?_
  refine mv_iload d_TrustDeskLaw_law_961 rfl ?_
  refine mv_iconst (v := 2) d_TrustDeskLaw_law_963 (by decide) ?_
  refine mv_iaddv (v := 2) d_TrustDeskLaw_law_964 (by decide) ?_
  refine mv_sld (v := (mj_xs g 2)) d_TrustDeskLaw_law_965 (by rw [hL]; unfold vp_in; decide) rfl ?_
  refine mv_aload_n d_TrustDeskLaw_law_966 rfl rfl ?_
  refine mv_iload d_TrustDeskLaw_law_967 rfl ?_
  refine mv_iconst (v := 3) d_TrustDeskLaw_law_969 (by decide) ?_
  refine mv_iaddv (v := 3) d_TrustDeskLaw_law_970 (by decide) ?_
  refine mv_sld (v := (mj_xs g 3)) d_TrustDeskLaw_law_971 (by rw [hL]; unfold vp_in; decide) rfl ?_
  refine mv_callV_s (kc' := 6) (ks' := 241) [.int (mj_xs g 1), .int (mj_xs g 2), .int (mj_xs g 3)] [.int (mj_xs g 3), .int (mj_xs g 2), .int (mj_xs g 1), .ref 99, .int (-1)] d_TrustDeskLaw_law_972 lV_TrustDeskLaw_111 h_99 rfl (c_TrustDeskModel_income_0 (d := (d + 7)) (x1 := (mj_xs g 1)) (x2 := (mj_xs g 2)) (x3 := (mj_xs g 3)) (h_99 := h_99)) rfl (Nat.le_of_ble_eq_true rfl) (Nat.le_of_ble_eq_true rfl) (Nat.le_of_ble_eq_true rfl) rfl ?_
  refine mv_icmp_eq_t (tgt := 1513) d_TrustDeskLaw_law_975 (by decide) (by decide) ?_
  refine mv_iinc (v := 6) (lv' := [(4, .int 6), (3, .ref 148), (2, .ref 99), (1, .ref 64), (0, .ref 50)]) d_TrustDeskLaw_law_1513 rfl (by decide) (by decide) rfl ?_
  refine mv_goto (tgt := 23) d_TrustDeskLaw_law_1516 (by decide) ?_
  refine mv_iload d_TrustDeskLaw_law_23 rfl ?_
  refine mv_aload_n d_TrustDeskLaw_law_25 rfl rfl ?_
  refine mv_slen (v := 6) d_TrustDeskLaw_law_26 (by rw [hL]; rfl) ?_
  refine mv_bipush (v := 6) d_TrustDeskLaw_law_27 (by decide) ?_
  refine mv_isubv (v := 0) d_TrustDeskLaw_law_29 (by decide) ?_
  refine mv_icmp_gt_t (tgt := 1519) d_TrustDeskLaw_law_30 (by decide) (by decide) ?_
  refine mv_iconst (v := 1) d_TrustDeskLaw_law_1519 (by decide) ?_
  exact mv_iret d_TrustDeskLaw_law_1520 rfl (by first | rfl | decide) rfl
theorem d_TrustDeskLaw_law_980 : decode kY_TrustDeskLaw_law.2.1 980 = .ok (.aload_n 1, 1) := by decide +kernel
theorem d_TrustDeskLaw_law_981 : decode kY_TrustDeskLaw_law.2.1 981 = .ok (.aload_n 0, 1) := by decide +kernel
theorem d_TrustDeskLaw_law_982 : decode kY_TrustDeskLaw_law.2.1 982 = .ok (.iload 4, 2) := by decide +kernel
theorem d_TrustDeskLaw_law_984 : decode kY_TrustDeskLaw_law.2.1 984 = .ok (.iconst 1, 1) := by decide +kernel
theorem d_TrustDeskLaw_law_985 : decode kY_TrustDeskLaw_law.2.1 985 = .ok (.iadd, 1) := by decide +kernel
theorem d_TrustDeskLaw_law_986 : decode kY_TrustDeskLaw_law.2.1 986 = .ok (.iaload, 1) := by decide +kernel
theorem d_TrustDeskLaw_law_987 : decode kY_TrustDeskLaw_law.2.1 987 = .ok (.aload_n 0, 1) := by decide +kernel
theorem d_TrustDeskLaw_law_988 : decode kY_TrustDeskLaw_law.2.1 988 = .ok (.iload 4, 2) := by decide +kernel
theorem d_TrustDeskLaw_law_990 : decode kY_TrustDeskLaw_law.2.1 990 = .ok (.iconst 2, 1) := by decide +kernel
theorem d_TrustDeskLaw_law_991 : decode kY_TrustDeskLaw_law.2.1 991 = .ok (.iadd, 1) := by decide +kernel
theorem d_TrustDeskLaw_law_992 : decode kY_TrustDeskLaw_law.2.1 992 = .ok (.iaload, 1) := by decide +kernel
theorem d_TrustDeskLaw_law_993 : decode kY_TrustDeskLaw_law.2.1 993 = .ok (.invokevirtual 112, 3) := by decide +kernel
theorem lV_TrustDeskLaw_112 : mj_lV "TrustDeskLaw" 112 kY_TrustDesk_part 2 := ⟨⟨(mj_in1 (List.mem_of_getElem? (i := 1179) (by decide +kernel)) rfl), (mj_in1 (List.mem_of_getElem? (i := 1) (by decide +kernel)) rfl), (mj_in1 (List.mem_of_getElem? (i := 1182) (by decide +kernel)) rfl), by decide, rfl, by decide⟩, (mj_in1 (List.mem_of_getElem? (i := 1180) (by decide +kernel)) rfl), (mj_in1 (List.mem_of_getElem? (i := 1181) (by decide +kernel)) rfl)⟩
theorem d_TrustDeskLaw_law_996 : decode kY_TrustDeskLaw_law.2.1 996 = .ok (.aload_n 2, 1) := by decide +kernel
theorem d_TrustDeskLaw_law_997 : decode kY_TrustDeskLaw_law.2.1 997 = .ok (.aload_n 0, 1) := by decide +kernel
theorem d_TrustDeskLaw_law_998 : decode kY_TrustDeskLaw_law.2.1 998 = .ok (.iload 4, 2) := by decide +kernel
theorem d_TrustDeskLaw_law_1000 : decode kY_TrustDeskLaw_law.2.1 1000 = .ok (.iconst 1, 1) := by decide +kernel
theorem d_TrustDeskLaw_law_1001 : decode kY_TrustDeskLaw_law.2.1 1001 = .ok (.iadd, 1) := by decide +kernel
theorem d_TrustDeskLaw_law_1002 : decode kY_TrustDeskLaw_law.2.1 1002 = .ok (.iaload, 1) := by decide +kernel
theorem d_TrustDeskLaw_law_1003 : decode kY_TrustDeskLaw_law.2.1 1003 = .ok (.aload_n 0, 1) := by decide +kernel
theorem d_TrustDeskLaw_law_1004 : decode kY_TrustDeskLaw_law.2.1 1004 = .ok (.iload 4, 2) := by decide +kernel
theorem d_TrustDeskLaw_law_1006 : decode kY_TrustDeskLaw_law.2.1 1006 = .ok (.iconst 2, 1) := by decide +kernel
theorem d_TrustDeskLaw_law_1007 : decode kY_TrustDeskLaw_law.2.1 1007 = .ok (.iadd, 1) := by decide +kernel
theorem d_TrustDeskLaw_law_1008 : decode kY_TrustDeskLaw_law.2.1 1008 = .ok (.iaload, 1) := by decide +kernel
theorem d_TrustDeskLaw_law_1009 : decode kY_TrustDeskLaw_law.2.1 1009 = .ok (.invokevirtual 115, 3) := by decide +kernel
theorem lV_TrustDeskLaw_115 : mj_lV "TrustDeskLaw" 115 kY_TrustDeskModel_part_1 2 := ⟨⟨(mj_in1 (List.mem_of_getElem? (i := 2070) (by decide +kernel)) rfl), (mj_in1 (List.mem_of_getElem? (i := 10) (by decide +kernel)) rfl), (mj_in1 (List.mem_of_getElem? (i := 2073) (by decide +kernel)) rfl), by decide, rfl, by decide⟩, (mj_in1 (List.mem_of_getElem? (i := 2071) (by decide +kernel)) rfl), (mj_in1 (List.mem_of_getElem? (i := 2072) (by decide +kernel)) rfl)⟩
theorem d_TrustDeskLaw_law_1012 : decode kY_TrustDeskLaw_law.2.1 1012 = .ok (.if_icmp .eq 501, 3) := by decide +kernel
theorem lw_case_20 {g : mj_G} {l : Launch} {d nx : Nat} {M : mj_M} (h_64 : M 64 = some (.inr (12, [.ref 65, .ref 70, .ref 77, .ref 80, .ref 90, .ref 94, .ref 95, .ref 96, .ref 97, .ref 98, .int 0, .int 0, .int 0]))) (h_95 : M 95 = some (.inr (0, [.int 0, .ref 0, .int 0]))) (h_99 : M 99 = some (.inr (13, [.int 0, .int 0, .int 0, .ref 100, .ref 101, .ref 102, .ref 103, .ref 104, .ref 105, .ref 106, .ref 107, .ref 108, .ref 109, .ref 110, .int 0, .int 0, .int 0, .int 0, .int 0, .int 0, .int 0, .int (-1), .int 0, .int 0, .int 0, .ref 111, .ref 112, .int 0, .ref 113, .ref 114, .ref 115, .int 0, .int 0, .ref 116, .ref 117, .ref 118, .ref 119, .ref 120, .ref 121, .ref 122, .ref 123, .ref 124, .ref 125, .ref 126, .ref 127, .ref 128, .ref 129, .ref 130, .ref 131, .int 0, .ref 132, .int 0, .ref 133, .int 0, .ref 134, .ref 135, .ref 136, .ref 137, .ref 138, .ref 139, .ref 140, .ref 141, .ref 142, .ref 143, .ref 144, .ref 145, .ref 146, .int 0, .long 0, .int 0, .int 0, .ref 147]))) (hL : mj_L g = 6) : mj_V g l kY_TrustDeskLaw_law (d + 9) 980 [(4, .int 0), (3, .ref 148), (2, .ref 99), (1, .ref 64), (0, .ref 50)] [] M 149 6 241 (fun r _ _ => r = some (.int 1)) := by
  refine mv_aload_n d_TrustDeskLaw_law_980 rfl rfl ?_
  refine mv_aload_n d_TrustDeskLaw_law_981 rfl rfl ?_
  refine mv_iload d_TrustDeskLaw_law_982 rfl ?_
  refine mv_iconst (v := 1) d_TrustDeskLaw_law_984 (by decide) ?_
  refine mv_iaddv (v := 1) d_TrustDeskLaw_law_985 (by decide) ?_
  refine mv_sld (v := (mj_xs g 1)) d_TrustDeskLaw_law_986 (by rw [hL]; unfold vp_in; decide) rfl ?_
  refine mv_aload_n d_TrustDeskLaw_law_987 rfl rfl ?_
  refine mv_iload d_TrustDeskLaw_law_988 rfl ?_
  refine mv_iconst (v := 2) d_TrustDeskLaw_law_990 (by decide) ?_
  refine mv_iaddv (v := 2) d_TrustDeskLaw_law_991 (by decide) ?_
  refine mv_sld (v := (mj_xs g 2)) d_TrustDeskLaw_law_992 (by rw [hL]; unfold vp_in; decide) rfl ?_
  refine mv_callV_s (kc' := 6) (ks' := 241) [.int (mj_xs g 1), .int (mj_xs g 2)] [.int (mj_xs g 2), .int (mj_xs g 1), .ref 64] d_TrustDeskLaw_law_993 lV_TrustDeskLaw_112 h_64 rfl (c_TrustDesk_part_0 (d := (d + 6)) (x1 := (mj_xs g 1)) (x2 := (mj_xs g 2)) (h_64 := h_64) (h_95 := h_95)) rfl (Nat.le_of_ble_eq_true rfl) (Nat.le_of_ble_eq_true rfl) (Nat.le_of_ble_eq_true rfl) rfl ?_
  refine mv_aload_n d_TrustDeskLaw_law_996 rfl rfl ?_
  refine mv_aload_n d_TrustDeskLaw_law_997 rfl rfl ?_
  refine mv_iload d_TrustDeskLaw_law_998 rfl ?_
  refine mv_iconst (v := 1) d_TrustDeskLaw_law_1000 (by decide) ?_
  refine mv_iaddv (v := 1) d_TrustDeskLaw_law_1001 (by decide) ?_
  refine mv_sld (v := (mj_xs g 1)) d_TrustDeskLaw_law_1002 (by rw [hL]; unfold vp_in; decide) rfl ?_
  refine mv_aload_n d_TrustDeskLaw_law_1003 rfl rfl ?_
  refine mv_iload d_TrustDeskLaw_law_1004 rfl ?_
  refine mv_iconst (v := 2) d_TrustDeskLaw_law_1006 (by decide) ?_
  refine mv_iaddv (v := 2) d_TrustDeskLaw_law_1007 (by decide) ?_
  refine mv_sld (v := (mj_xs g 2)) d_TrustDeskLaw_law_1008 (by rw [hL]; unfold vp_in; decide) rfl ?_
  refine mv_callV_s (kc' := 6) (ks' := 241) [.int (mj_xs g 1), .int (mj_xs g 2)] [.int (mj_xs g 2), .int (mj_xs g 1), .ref 99, .int (-1)] d_TrustDeskLaw_law_1009 lV_TrustDeskLaw_115 h_99 rfl (c_TrustDeskModel_part_1_0 (d := (d + 7)) (x1 := (mj_xs g 1)) (x2 := (mj_xs g 2)) (h_99 := h_99)) rfl (Nat.le_of_ble_eq_true rfl) (Nat.le_of_ble_eq_true rfl) (Nat.le_of_ble_eq_true rfl) rfl ?_
  refine mv_icmp_eq_t (tgt := 1513) d_TrustDeskLaw_law_1012 (by decide) (by decide) ?_
  refine mv_iinc (v := 6) (lv' := [(4, .int 6), (3, .ref 148), (2, .ref 99), (1, .ref 64), (0, .ref 50)]) d_TrustDeskLaw_law_1513 rfl (by decide) (by decide) rfl ?_
  refine mv_goto (tgt := 23) d_TrustDeskLaw_law_1516 (by decide) ?_
  refine mv_iload d_TrustDeskLaw_law_23 rfl ?_
  refine mv_aload_n d_TrustDeskLaw_law_25 rfl rfl ?_
  refine mv_slen (v := 6) d_TrustDeskLaw_law_26 (by rw [hL]; rfl) ?_
  refine mv_bipush (v := 6) d_TrustDeskLaw_law_27 (by decide) ?_
  refine mv_isubv (v := 0) d_TrustDeskLaw_law_29 (by decide) ?_
  refine mv_icmp_gt_t (tgt := 1519) d_TrustDeskLaw_law_30 (by decide) (by decide) ?_
  refine mv_iconst (v := 1) d_TrustDeskLaw_law_1519 (by decide) ?_
  exact mv_iret d_TrustDeskLaw_law_1520 rfl (by first | rfl | decide) rfl
theorem d_TrustDeskLaw_law_1017 : decode kY_TrustDeskLaw_law.2.1 1017 = .ok (.aload_n 1, 1) := by decide +kernel
theorem d_TrustDeskLaw_law_1018 : decode kY_TrustDeskLaw_law.2.1 1018 = .ok (.aload_n 0, 1) := by decide +kernel
theorem d_TrustDeskLaw_law_1019 : decode kY_TrustDeskLaw_law.2.1 1019 = .ok (.iload 4, 2) := by decide +kernel
theorem d_TrustDeskLaw_law_1021 : decode kY_TrustDeskLaw_law.2.1 1021 = .ok (.iconst 1, 1) := by decide +kernel
theorem d_TrustDeskLaw_law_1022 : decode kY_TrustDeskLaw_law.2.1 1022 = .ok (.iadd, 1) := by decide +kernel
theorem d_TrustDeskLaw_law_1023 : decode kY_TrustDeskLaw_law.2.1 1023 = .ok (.iaload, 1) := by decide +kernel
theorem d_TrustDeskLaw_law_1024 : decode kY_TrustDeskLaw_law.2.1 1024 = .ok (.invokevirtual 116, 3) := by decide +kernel
theorem lV_TrustDeskLaw_116 : mj_lV "TrustDeskLaw" 116 kY_TrustDesk_paid 1 := ⟨⟨(mj_in1 (List.mem_of_getElem? (i := 1183) (by decide +kernel)) rfl), (mj_in1 (List.mem_of_getElem? (i := 1) (by decide +kernel)) rfl), (mj_in1 (List.mem_of_getElem? (i := 1186) (by decide +kernel)) rfl), by decide, rfl, by decide⟩, (mj_in1 (List.mem_of_getElem? (i := 1184) (by decide +kernel)) rfl), (mj_in1 (List.mem_of_getElem? (i := 1185) (by decide +kernel)) rfl)⟩
theorem d_TrustDeskLaw_law_1027 : decode kY_TrustDeskLaw_law.2.1 1027 = .ok (.aload_n 2, 1) := by decide +kernel
theorem d_TrustDeskLaw_law_1028 : decode kY_TrustDeskLaw_law.2.1 1028 = .ok (.aload_n 0, 1) := by decide +kernel
theorem d_TrustDeskLaw_law_1029 : decode kY_TrustDeskLaw_law.2.1 1029 = .ok (.iload 4, 2) := by decide +kernel
theorem d_TrustDeskLaw_law_1031 : decode kY_TrustDeskLaw_law.2.1 1031 = .ok (.iconst 1, 1) := by decide +kernel
theorem d_TrustDeskLaw_law_1032 : decode kY_TrustDeskLaw_law.2.1 1032 = .ok (.iadd, 1) := by decide +kernel
theorem d_TrustDeskLaw_law_1033 : decode kY_TrustDeskLaw_law.2.1 1033 = .ok (.iaload, 1) := by decide +kernel
theorem d_TrustDeskLaw_law_1034 : decode kY_TrustDeskLaw_law.2.1 1034 = .ok (.invokevirtual 119, 3) := by decide +kernel
theorem lV_TrustDeskLaw_119 : mj_lV "TrustDeskLaw" 119 kY_TrustDeskModel_paid 1 := ⟨⟨(mj_in1 (List.mem_of_getElem? (i := 2074) (by decide +kernel)) rfl), (mj_in1 (List.mem_of_getElem? (i := 10) (by decide +kernel)) rfl), (mj_in1 (List.mem_of_getElem? (i := 2077) (by decide +kernel)) rfl), by decide, rfl, by decide⟩, (mj_in1 (List.mem_of_getElem? (i := 2075) (by decide +kernel)) rfl), (mj_in1 (List.mem_of_getElem? (i := 2076) (by decide +kernel)) rfl)⟩
theorem d_TrustDeskLaw_law_1037 : decode kY_TrustDeskLaw_law.2.1 1037 = .ok (.lcmp, 1) := by decide +kernel
theorem d_TrustDeskLaw_law_1038 : decode kY_TrustDeskLaw_law.2.1 1038 = .ok (.ifCond .eq 475, 3) := by decide +kernel
theorem lw_case_21 {g : mj_G} {l : Launch} {d nx : Nat} {M : mj_M} (h_64 : M 64 = some (.inr (12, [.ref 65, .ref 70, .ref 77, .ref 80, .ref 90, .ref 94, .ref 95, .ref 96, .ref 97, .ref 98, .int 0, .int 0, .int 0]))) (h_95 : M 95 = some (.inr (0, [.int 0, .ref 0, .int 0]))) (h_99 : M 99 = some (.inr (13, [.int 0, .int 0, .int 0, .ref 100, .ref 101, .ref 102, .ref 103, .ref 104, .ref 105, .ref 106, .ref 107, .ref 108, .ref 109, .ref 110, .int 0, .int 0, .int 0, .int 0, .int 0, .int 0, .int 0, .int (-1), .int 0, .int 0, .int 0, .ref 111, .ref 112, .int 0, .ref 113, .ref 114, .ref 115, .int 0, .int 0, .ref 116, .ref 117, .ref 118, .ref 119, .ref 120, .ref 121, .ref 122, .ref 123, .ref 124, .ref 125, .ref 126, .ref 127, .ref 128, .ref 129, .ref 130, .ref 131, .int 0, .ref 132, .int 0, .ref 133, .int 0, .ref 134, .ref 135, .ref 136, .ref 137, .ref 138, .ref 139, .ref 140, .ref 141, .ref 142, .ref 143, .ref 144, .ref 145, .ref 146, .int 0, .long 0, .int 0, .int 0, .ref 147]))) (hL : mj_L g = 6) : mj_V g l kY_TrustDeskLaw_law (d + 9) 1017 [(4, .int 0), (3, .ref 148), (2, .ref 99), (1, .ref 64), (0, .ref 50)] [] M 149 6 241 (fun r _ _ => r = some (.int 1)) := by
  refine mv_aload_n d_TrustDeskLaw_law_1017 rfl rfl ?_
  refine mv_aload_n d_TrustDeskLaw_law_1018 rfl rfl ?_
  refine mv_iload d_TrustDeskLaw_law_1019 rfl ?_
  refine mv_iconst (v := 1) d_TrustDeskLaw_law_1021 (by decide) ?_
  refine mv_iaddv (v := 1) d_TrustDeskLaw_law_1022 (by decide) ?_
  refine mv_sld (v := (mj_xs g 1)) d_TrustDeskLaw_law_1023 (by rw [hL]; unfold vp_in; decide) rfl ?_
  refine mv_callV_s (kc' := 6) (ks' := 241) [.int (mj_xs g 1)] [.int (mj_xs g 1), .ref 64] d_TrustDeskLaw_law_1024 lV_TrustDeskLaw_116 h_64 rfl (c_TrustDesk_paid_0 (d := (d + 6)) (x1 := (mj_xs g 1)) (h_64 := h_64) (h_95 := h_95)) rfl (Nat.le_of_ble_eq_true rfl) (Nat.le_of_ble_eq_true rfl) (Nat.le_of_ble_eq_true rfl) rfl ?_
  refine mv_aload_n d_TrustDeskLaw_law_1027 rfl rfl ?_
  refine mv_aload_n d_TrustDeskLaw_law_1028 rfl rfl ?_
  refine mv_iload d_TrustDeskLaw_law_1029 rfl ?_
  refine mv_iconst (v := 1) d_TrustDeskLaw_law_1031 (by decide) ?_
  refine mv_iaddv (v := 1) d_TrustDeskLaw_law_1032 (by decide) ?_
  refine mv_sld (v := (mj_xs g 1)) d_TrustDeskLaw_law_1033 (by rw [hL]; unfold vp_in; decide) rfl ?_
  refine mv_callV_s (kc' := 6) (ks' := 241) [.int (mj_xs g 1)] [.int (mj_xs g 1), .ref 99, .long (-1)] d_TrustDeskLaw_law_1034 lV_TrustDeskLaw_119 h_99 rfl (c_TrustDeskModel_paid_0 (d := (d + 7)) (x1 := (mj_xs g 1)) (h_99 := h_99)) rfl (Nat.le_of_ble_eq_true rfl) (Nat.le_of_ble_eq_true rfl) (Nat.le_of_ble_eq_true rfl) rfl ?_
  refine mv_leq_t (tgt := 1513) d_TrustDeskLaw_law_1037 d_TrustDeskLaw_law_1038 (by decide) ?_
  refine mv_iinc (v := 6) (lv' := [(4, .int 6), (3, .ref 148), (2, .ref 99), (1, .ref 64), (0, .ref 50)]) d_TrustDeskLaw_law_1513 rfl (by decide) (by decide) rfl ?_
  refine mv_goto (tgt := 23) d_TrustDeskLaw_law_1516 (by decide) ?_
  refine mv_iload d_TrustDeskLaw_law_23 rfl ?_
  refine mv_aload_n d_TrustDeskLaw_law_25 rfl rfl ?_
  refine mv_slen (v := 6) d_TrustDeskLaw_law_26 (by rw [hL]; rfl) ?_
  refine mv_bipush (v := 6) d_TrustDeskLaw_law_27 (by decide) ?_
  refine mv_isubv (v := 0) d_TrustDeskLaw_law_29 (by decide) ?_
  refine mv_icmp_gt_t (tgt := 1519) d_TrustDeskLaw_law_30 (by decide) (by decide) ?_
  refine mv_iconst (v := 1) d_TrustDeskLaw_law_1519 (by decide) ?_
  exact mv_iret d_TrustDeskLaw_law_1520 rfl (by first | rfl | decide) rfl
theorem d_TrustDeskLaw_law_1043 : decode kY_TrustDeskLaw_law.2.1 1043 = .ok (.aload_n 1, 1) := by decide +kernel
theorem d_TrustDeskLaw_law_1044 : decode kY_TrustDeskLaw_law.2.1 1044 = .ok (.aload_n 0, 1) := by decide +kernel
theorem d_TrustDeskLaw_law_1045 : decode kY_TrustDeskLaw_law.2.1 1045 = .ok (.iload 4, 2) := by decide +kernel
theorem d_TrustDeskLaw_law_1047 : decode kY_TrustDeskLaw_law.2.1 1047 = .ok (.iconst 1, 1) := by decide +kernel
theorem d_TrustDeskLaw_law_1048 : decode kY_TrustDeskLaw_law.2.1 1048 = .ok (.iadd, 1) := by decide +kernel
theorem d_TrustDeskLaw_law_1049 : decode kY_TrustDeskLaw_law.2.1 1049 = .ok (.iaload, 1) := by decide +kernel
theorem d_TrustDeskLaw_law_1050 : decode kY_TrustDeskLaw_law.2.1 1050 = .ok (.aload_n 0, 1) := by decide +kernel
theorem d_TrustDeskLaw_law_1051 : decode kY_TrustDeskLaw_law.2.1 1051 = .ok (.iload 4, 2) := by decide +kernel
theorem d_TrustDeskLaw_law_1053 : decode kY_TrustDeskLaw_law.2.1 1053 = .ok (.iconst 2, 1) := by decide +kernel
theorem d_TrustDeskLaw_law_1054 : decode kY_TrustDeskLaw_law.2.1 1054 = .ok (.iadd, 1) := by decide +kernel
theorem d_TrustDeskLaw_law_1055 : decode kY_TrustDeskLaw_law.2.1 1055 = .ok (.iaload, 1) := by decide +kernel
theorem d_TrustDeskLaw_law_1056 : decode kY_TrustDeskLaw_law.2.1 1056 = .ok (.aload_n 0, 1) := by decide +kernel
theorem d_TrustDeskLaw_law_1057 : decode kY_TrustDeskLaw_law.2.1 1057 = .ok (.iload 4, 2) := by decide +kernel
theorem d_TrustDeskLaw_law_1059 : decode kY_TrustDeskLaw_law.2.1 1059 = .ok (.iconst 3, 1) := by decide +kernel
theorem d_TrustDeskLaw_law_1060 : decode kY_TrustDeskLaw_law.2.1 1060 = .ok (.iadd, 1) := by decide +kernel
theorem d_TrustDeskLaw_law_1061 : decode kY_TrustDeskLaw_law.2.1 1061 = .ok (.iaload, 1) := by decide +kernel
theorem d_TrustDeskLaw_law_1062 : decode kY_TrustDeskLaw_law.2.1 1062 = .ok (.invokevirtual 120, 3) := by decide +kernel
theorem lV_TrustDeskLaw_120 : mj_lV "TrustDeskLaw" 120 kY_TrustDesk_endOf 3 := ⟨⟨(mj_in1 (List.mem_of_getElem? (i := 1187) (by decide +kernel)) rfl), (mj_in1 (List.mem_of_getElem? (i := 1) (by decide +kernel)) rfl), (mj_in1 (List.mem_of_getElem? (i := 1190) (by decide +kernel)) rfl), by decide, rfl, by decide⟩, (mj_in1 (List.mem_of_getElem? (i := 1188) (by decide +kernel)) rfl), (mj_in1 (List.mem_of_getElem? (i := 1189) (by decide +kernel)) rfl)⟩
theorem d_TrustDeskLaw_law_1065 : decode kY_TrustDeskLaw_law.2.1 1065 = .ok (.aload_n 2, 1) := by decide +kernel
theorem d_TrustDeskLaw_law_1066 : decode kY_TrustDeskLaw_law.2.1 1066 = .ok (.aload_n 0, 1) := by decide +kernel
theorem d_TrustDeskLaw_law_1067 : decode kY_TrustDeskLaw_law.2.1 1067 = .ok (.iload 4, 2) := by decide +kernel
theorem d_TrustDeskLaw_law_1069 : decode kY_TrustDeskLaw_law.2.1 1069 = .ok (.iconst 1, 1) := by decide +kernel
theorem d_TrustDeskLaw_law_1070 : decode kY_TrustDeskLaw_law.2.1 1070 = .ok (.iadd, 1) := by decide +kernel
theorem d_TrustDeskLaw_law_1071 : decode kY_TrustDeskLaw_law.2.1 1071 = .ok (.iaload, 1) := by decide +kernel
theorem d_TrustDeskLaw_law_1072 : decode kY_TrustDeskLaw_law.2.1 1072 = .ok (.aload_n 0, 1) := by decide +kernel
theorem d_TrustDeskLaw_law_1073 : decode kY_TrustDeskLaw_law.2.1 1073 = .ok (.iload 4, 2) := by decide +kernel
theorem d_TrustDeskLaw_law_1075 : decode kY_TrustDeskLaw_law.2.1 1075 = .ok (.iconst 2, 1) := by decide +kernel
theorem d_TrustDeskLaw_law_1076 : decode kY_TrustDeskLaw_law.2.1 1076 = .ok (.iadd, 1) := by decide +kernel
theorem d_TrustDeskLaw_law_1077 : decode kY_TrustDeskLaw_law.2.1 1077 = .ok (.iaload, 1) := by decide +kernel
theorem d_TrustDeskLaw_law_1078 : decode kY_TrustDeskLaw_law.2.1 1078 = .ok (.aload_n 0, 1) := by decide +kernel
theorem d_TrustDeskLaw_law_1079 : decode kY_TrustDeskLaw_law.2.1 1079 = .ok (.iload 4, 2) := by decide +kernel
theorem d_TrustDeskLaw_law_1081 : decode kY_TrustDeskLaw_law.2.1 1081 = .ok (.iconst 3, 1) := by decide +kernel
theorem d_TrustDeskLaw_law_1082 : decode kY_TrustDeskLaw_law.2.1 1082 = .ok (.iadd, 1) := by decide +kernel
theorem d_TrustDeskLaw_law_1083 : decode kY_TrustDeskLaw_law.2.1 1083 = .ok (.iaload, 1) := by decide +kernel
theorem d_TrustDeskLaw_law_1084 : decode kY_TrustDeskLaw_law.2.1 1084 = .ok (.invokevirtual 123, 3) := by decide +kernel
theorem lV_TrustDeskLaw_123 : mj_lV "TrustDeskLaw" 123 kY_TrustDeskModel_endOf 3 := ⟨⟨(mj_in1 (List.mem_of_getElem? (i := 2078) (by decide +kernel)) rfl), (mj_in1 (List.mem_of_getElem? (i := 10) (by decide +kernel)) rfl), (mj_in1 (List.mem_of_getElem? (i := 2081) (by decide +kernel)) rfl), by decide, rfl, by decide⟩, (mj_in1 (List.mem_of_getElem? (i := 2079) (by decide +kernel)) rfl), (mj_in1 (List.mem_of_getElem? (i := 2080) (by decide +kernel)) rfl)⟩
theorem d_TrustDeskLaw_law_1087 : decode kY_TrustDeskLaw_law.2.1 1087 = .ok (.if_icmp .eq 426, 3) := by decide +kernel
theorem lw_case_22 {g : mj_G} {l : Launch} {d nx : Nat} {M : mj_M} (h_64 : M 64 = some (.inr (12, [.ref 65, .ref 70, .ref 77, .ref 80, .ref 90, .ref 94, .ref 95, .ref 96, .ref 97, .ref 98, .int 0, .int 0, .int 0]))) (h_95 : M 95 = some (.inr (0, [.int 0, .ref 0, .int 0]))) (h_99 : M 99 = some (.inr (13, [.int 0, .int 0, .int 0, .ref 100, .ref 101, .ref 102, .ref 103, .ref 104, .ref 105, .ref 106, .ref 107, .ref 108, .ref 109, .ref 110, .int 0, .int 0, .int 0, .int 0, .int 0, .int 0, .int 0, .int (-1), .int 0, .int 0, .int 0, .ref 111, .ref 112, .int 0, .ref 113, .ref 114, .ref 115, .int 0, .int 0, .ref 116, .ref 117, .ref 118, .ref 119, .ref 120, .ref 121, .ref 122, .ref 123, .ref 124, .ref 125, .ref 126, .ref 127, .ref 128, .ref 129, .ref 130, .ref 131, .int 0, .ref 132, .int 0, .ref 133, .int 0, .ref 134, .ref 135, .ref 136, .ref 137, .ref 138, .ref 139, .ref 140, .ref 141, .ref 142, .ref 143, .ref 144, .ref 145, .ref 146, .int 0, .long 0, .int 0, .int 0, .ref 147]))) (hL : mj_L g = 6) : mj_V g l kY_TrustDeskLaw_law (d + 9) 1043 [(4, .int 0), (3, .ref 148), (2, .ref 99), (1, .ref 64), (0, .ref 50)] [] M 149 6 241 (fun r _ _ => r = some (.int 1)) := by
  refine mv_aload_n d_TrustDeskLaw_law_1043 rfl rfl ?_
  refine mv_aload_n d_TrustDeskLaw_law_1044 rfl rfl ?_
  refine mv_iload d_TrustDeskLaw_law_1045 rfl ?_
  refine mv_iconst (v := 1) d_TrustDeskLaw_law_1047 (by decide) ?_
  refine mv_iaddv (v := 1) d_TrustDeskLaw_law_1048 (by decide) ?_
  refine mv_sld (v := (mj_xs g 1)) d_TrustDeskLaw_law_1049 (by rw [hL]; unfold vp_in; decide) rfl ?_
  refine mv_aload_n d_TrustDeskLaw_law_1050 rfl rfl ?_
  refine mv_iload d_TrustDeskLaw_law_1051 rfl ?_
  refine mv_iconst (v := 2) d_TrustDeskLaw_law_1053 (by decide) ?_
  refine mv_iaddv (v := 2) d_TrustDeskLaw_law_1054 (by decide) ?_
  refine mv_sld (v := (mj_xs g 2)) d_TrustDeskLaw_law_1055 (by rw [hL]; unfold vp_in; decide) rfl ?_
  refine mv_aload_n d_TrustDeskLaw_law_1056 rfl rfl ?_
  refine mv_iload d_TrustDeskLaw_law_1057 rfl ?_
  refine mv_iconst (v := 3) d_TrustDeskLaw_law_1059 (by decide) ?_
  refine mv_iaddv (v := 3) d_TrustDeskLaw_law_1060 (by decide) ?_
  refine mv_sld (v := (mj_xs g 3)) d_TrustDeskLaw_law_1061 (by rw [hL]; unfold vp_in; decide) rfl ?_
  refine mv_callV_s (kc' := 6) (ks' := 241) [.int (mj_xs g 1), .int (mj_xs g 2), .int (mj_xs g 3)] [.int (mj_xs g 3), .int (mj_xs g 2), .int (mj_xs g 1), .ref 64] d_TrustDeskLaw_law_1062 lV_TrustDeskLaw_120 h_64 rfl (c_TrustDesk_endOf_0 (d := (d + 5)) (x1 := (mj_xs g 1)) (x2 := (mj_xs g 2)) (x3 := (mj_xs g 3)) (h_64 := h_64) (h_95 := h_95)) rfl (Nat.le_of_ble_eq_true rfl) (Nat.le_of_ble_eq_true rfl) (Nat.le_of_ble_eq_true rfl) rfl ?_
  refine mv_aload_n d_TrustDeskLaw_law_1065 rfl rfl ?_
  refine mv_aload_n d_TrustDeskLaw_law_1066 rfl rfl ?_
  refine mv_iload d_TrustDeskLaw_law_1067 rfl ?_
  refine mv_iconst (v := 1) d_TrustDeskLaw_law_1069 (by decide) ?_
  refine mv_iaddv (v := 1) d_TrustDeskLaw_law_1070 (by decide) ?_
  refine mv_sld (v := (mj_xs g 1)) d_TrustDeskLaw_law_1071 (by rw [hL]; unfold vp_in; decide) rfl ?_
  refine mv_aload_n d_TrustDeskLaw_law_1072 rfl rfl ?_
  refine mv_iload d_TrustDeskLaw_law_1073 rfl ?_
  refine mv_iconst (v := 2) d_TrustDeskLaw_law_1075 (by decide) ?_
  refine mv_iaddv (v := 2) d_TrustDeskLaw_law_1076 (by decide) ?_
  refine mv_sld (v := (mj_xs g 2)) d_TrustDeskLaw_law_1077 (by rw [hL]; unfold vp_in; decide) rfl ?_
  refine mv_aload_n d_TrustDeskLaw_law_1078 rfl rfl ?_
  refine mv_iload d_TrustDeskLaw_law_1079 rfl ?_
  refine mv_iconst (v := 3) d_TrustDeskLaw_law_1081 (by decide) ?_
  refine mv_iaddv (v := 3) d_TrustDeskLaw_law_1082 (by decide) ?_
  refine mv_sld (v := (mj_xs g 3)) d_TrustDeskLaw_law_1083 (by rw [hL]; unfold vp_in; decide) rfl ?_
  refine mv_callV_s (kc' := 6) (ks' := 241) [.int (mj_xs g 1), .int (mj_xs g 2), .int (mj_xs g 3)] [.int (mj_xs g 3), .int (mj_xs g 2), .int (mj_xs g 1), .ref 99, .int (-1)] d_TrustDeskLaw_law_1084 lV_TrustDeskLaw_123 h_99 rfl (c_TrustDeskModel_endOf_0 (d := (d + 6)) (x1 := (mj_xs g 1)) (x2 := (mj_xs g 2)) (x3 := (mj_xs g 3)) (h_99 := h_99)) rfl (Nat.le_of_ble_eq_true rfl) (Nat.le_of_ble_eq_true rfl) (Nat.le_of_ble_eq_true rfl) rfl ?_
  refine mv_icmp_eq_t (tgt := 1513) d_TrustDeskLaw_law_1087 (by decide) (by decide) ?_
  refine mv_iinc (v := 6) (lv' := [(4, .int 6), (3, .ref 148), (2, .ref 99), (1, .ref 64), (0, .ref 50)]) d_TrustDeskLaw_law_1513 rfl (by decide) (by decide) rfl ?_
  refine mv_goto (tgt := 23) d_TrustDeskLaw_law_1516 (by decide) ?_
  refine mv_iload d_TrustDeskLaw_law_23 rfl ?_
  refine mv_aload_n d_TrustDeskLaw_law_25 rfl rfl ?_
  refine mv_slen (v := 6) d_TrustDeskLaw_law_26 (by rw [hL]; rfl) ?_
  refine mv_bipush (v := 6) d_TrustDeskLaw_law_27 (by decide) ?_
  refine mv_isubv (v := 0) d_TrustDeskLaw_law_29 (by decide) ?_
  refine mv_icmp_gt_t (tgt := 1519) d_TrustDeskLaw_law_30 (by decide) (by decide) ?_
  refine mv_iconst (v := 1) d_TrustDeskLaw_law_1519 (by decide) ?_
  exact mv_iret d_TrustDeskLaw_law_1520 rfl (by first | rfl | decide) rfl
theorem d_TrustDeskLaw_law_1092 : decode kY_TrustDeskLaw_law.2.1 1092 = .ok (.aload_n 1, 1) := by decide +kernel
theorem d_TrustDeskLaw_law_1093 : decode kY_TrustDeskLaw_law.2.1 1093 = .ok (.aload_n 0, 1) := by decide +kernel
theorem d_TrustDeskLaw_law_1094 : decode kY_TrustDeskLaw_law.2.1 1094 = .ok (.iload 4, 2) := by decide +kernel
theorem d_TrustDeskLaw_law_1096 : decode kY_TrustDeskLaw_law.2.1 1096 = .ok (.iconst 1, 1) := by decide +kernel
theorem d_TrustDeskLaw_law_1097 : decode kY_TrustDeskLaw_law.2.1 1097 = .ok (.iadd, 1) := by decide +kernel
theorem d_TrustDeskLaw_law_1098 : decode kY_TrustDeskLaw_law.2.1 1098 = .ok (.iaload, 1) := by decide +kernel
theorem d_TrustDeskLaw_law_1099 : decode kY_TrustDeskLaw_law.2.1 1099 = .ok (.aload_n 0, 1) := by decide +kernel
theorem d_TrustDeskLaw_law_1100 : decode kY_TrustDeskLaw_law.2.1 1100 = .ok (.iload 4, 2) := by decide +kernel
theorem d_TrustDeskLaw_law_1102 : decode kY_TrustDeskLaw_law.2.1 1102 = .ok (.iconst 2, 1) := by decide +kernel
theorem d_TrustDeskLaw_law_1103 : decode kY_TrustDeskLaw_law.2.1 1103 = .ok (.iadd, 1) := by decide +kernel
theorem d_TrustDeskLaw_law_1104 : decode kY_TrustDeskLaw_law.2.1 1104 = .ok (.iaload, 1) := by decide +kernel
theorem d_TrustDeskLaw_law_1105 : decode kY_TrustDeskLaw_law.2.1 1105 = .ok (.aload_n 0, 1) := by decide +kernel
theorem d_TrustDeskLaw_law_1106 : decode kY_TrustDeskLaw_law.2.1 1106 = .ok (.iload 4, 2) := by decide +kernel
theorem d_TrustDeskLaw_law_1108 : decode kY_TrustDeskLaw_law.2.1 1108 = .ok (.iconst 3, 1) := by decide +kernel
theorem d_TrustDeskLaw_law_1109 : decode kY_TrustDeskLaw_law.2.1 1109 = .ok (.iadd, 1) := by decide +kernel
theorem d_TrustDeskLaw_law_1110 : decode kY_TrustDeskLaw_law.2.1 1110 = .ok (.iaload, 1) := by decide +kernel
theorem d_TrustDeskLaw_law_1111 : decode kY_TrustDeskLaw_law.2.1 1111 = .ok (.aload_n 0, 1) := by decide +kernel
theorem d_TrustDeskLaw_law_1112 : decode kY_TrustDeskLaw_law.2.1 1112 = .ok (.iload 4, 2) := by decide +kernel
theorem d_TrustDeskLaw_law_1114 : decode kY_TrustDeskLaw_law.2.1 1114 = .ok (.iconst 4, 1) := by decide +kernel
theorem d_TrustDeskLaw_law_1115 : decode kY_TrustDeskLaw_law.2.1 1115 = .ok (.iadd, 1) := by decide +kernel
theorem d_TrustDeskLaw_law_1116 : decode kY_TrustDeskLaw_law.2.1 1116 = .ok (.iaload, 1) := by decide +kernel
theorem d_TrustDeskLaw_law_1117 : decode kY_TrustDeskLaw_law.2.1 1117 = .ok (.invokevirtual 124, 3) := by decide +kernel
theorem lV_TrustDeskLaw_124 : mj_lV "TrustDeskLaw" 124 kY_TrustDesk_due 4 := ⟨⟨(mj_in1 (List.mem_of_getElem? (i := 1195) (by decide +kernel)) rfl), (mj_in1 (List.mem_of_getElem? (i := 1) (by decide +kernel)) rfl), (mj_in1 (List.mem_of_getElem? (i := 1198) (by decide +kernel)) rfl), by decide, rfl, by decide⟩, (mj_in1 (List.mem_of_getElem? (i := 1196) (by decide +kernel)) rfl), (mj_in1 (List.mem_of_getElem? (i := 1197) (by decide +kernel)) rfl)⟩
theorem d_TrustDeskLaw_law_1120 : decode kY_TrustDeskLaw_law.2.1 1120 = .ok (.aload_n 2, 1) := by decide +kernel
theorem d_TrustDeskLaw_law_1121 : decode kY_TrustDeskLaw_law.2.1 1121 = .ok (.aload_n 0, 1) := by decide +kernel
theorem d_TrustDeskLaw_law_1122 : decode kY_TrustDeskLaw_law.2.1 1122 = .ok (.iload 4, 2) := by decide +kernel
theorem d_TrustDeskLaw_law_1124 : decode kY_TrustDeskLaw_law.2.1 1124 = .ok (.iconst 1, 1) := by decide +kernel
theorem d_TrustDeskLaw_law_1125 : decode kY_TrustDeskLaw_law.2.1 1125 = .ok (.iadd, 1) := by decide +kernel
theorem d_TrustDeskLaw_law_1126 : decode kY_TrustDeskLaw_law.2.1 1126 = .ok (.iaload, 1) := by decide +kernel
theorem d_TrustDeskLaw_law_1127 : decode kY_TrustDeskLaw_law.2.1 1127 = .ok (.aload_n 0, 1) := by decide +kernel
theorem d_TrustDeskLaw_law_1128 : decode kY_TrustDeskLaw_law.2.1 1128 = .ok (.iload 4, 2) := by decide +kernel
theorem d_TrustDeskLaw_law_1130 : decode kY_TrustDeskLaw_law.2.1 1130 = .ok (.iconst 2, 1) := by decide +kernel
theorem d_TrustDeskLaw_law_1131 : decode kY_TrustDeskLaw_law.2.1 1131 = .ok (.iadd, 1) := by decide +kernel
theorem d_TrustDeskLaw_law_1132 : decode kY_TrustDeskLaw_law.2.1 1132 = .ok (.iaload, 1) := by decide +kernel
theorem d_TrustDeskLaw_law_1133 : decode kY_TrustDeskLaw_law.2.1 1133 = .ok (.aload_n 0, 1) := by decide +kernel
theorem d_TrustDeskLaw_law_1134 : decode kY_TrustDeskLaw_law.2.1 1134 = .ok (.iload 4, 2) := by decide +kernel
theorem d_TrustDeskLaw_law_1136 : decode kY_TrustDeskLaw_law.2.1 1136 = .ok (.iconst 3, 1) := by decide +kernel
theorem d_TrustDeskLaw_law_1137 : decode kY_TrustDeskLaw_law.2.1 1137 = .ok (.iadd, 1) := by decide +kernel
theorem d_TrustDeskLaw_law_1138 : decode kY_TrustDeskLaw_law.2.1 1138 = .ok (.iaload, 1) := by decide +kernel
theorem d_TrustDeskLaw_law_1139 : decode kY_TrustDeskLaw_law.2.1 1139 = .ok (.aload_n 0, 1) := by decide +kernel
theorem d_TrustDeskLaw_law_1140 : decode kY_TrustDeskLaw_law.2.1 1140 = .ok (.iload 4, 2) := by decide +kernel
theorem d_TrustDeskLaw_law_1142 : decode kY_TrustDeskLaw_law.2.1 1142 = .ok (.iconst 4, 1) := by decide +kernel
theorem d_TrustDeskLaw_law_1143 : decode kY_TrustDeskLaw_law.2.1 1143 = .ok (.iadd, 1) := by decide +kernel
theorem d_TrustDeskLaw_law_1144 : decode kY_TrustDeskLaw_law.2.1 1144 = .ok (.iaload, 1) := by decide +kernel
theorem d_TrustDeskLaw_law_1145 : decode kY_TrustDeskLaw_law.2.1 1145 = .ok (.invokevirtual 128, 3) := by decide +kernel
theorem lV_TrustDeskLaw_128 : mj_lV "TrustDeskLaw" 128 kY_TrustDeskModel_due 4 := ⟨⟨(mj_in1 (List.mem_of_getElem? (i := 1830) (by decide +kernel)) rfl), (mj_in1 (List.mem_of_getElem? (i := 10) (by decide +kernel)) rfl), (mj_in1 (List.mem_of_getElem? (i := 1833) (by decide +kernel)) rfl), by decide, rfl, by decide⟩, (mj_in1 (List.mem_of_getElem? (i := 1831) (by decide +kernel)) rfl), (mj_in1 (List.mem_of_getElem? (i := 1832) (by decide +kernel)) rfl)⟩
theorem d_TrustDeskLaw_law_1148 : decode kY_TrustDeskLaw_law.2.1 1148 = .ok (.if_icmp .eq 365, 3) := by decide +kernel
theorem lw_case_23 {g : mj_G} {l : Launch} {d nx : Nat} {M : mj_M} (h_64 : M 64 = some (.inr (12, [.ref 65, .ref 70, .ref 77, .ref 80, .ref 90, .ref 94, .ref 95, .ref 96, .ref 97, .ref 98, .int 0, .int 0, .int 0]))) (h_95 : M 95 = some (.inr (0, [.int 0, .ref 0, .int 0]))) (h_99 : M 99 = some (.inr (13, [.int 0, .int 0, .int 0, .ref 100, .ref 101, .ref 102, .ref 103, .ref 104, .ref 105, .ref 106, .ref 107, .ref 108, .ref 109, .ref 110, .int 0, .int 0, .int 0, .int 0, .int 0, .int 0, .int 0, .int (-1), .int 0, .int 0, .int 0, .ref 111, .ref 112, .int 0, .ref 113, .ref 114, .ref 115, .int 0, .int 0, .ref 116, .ref 117, .ref 118, .ref 119, .ref 120, .ref 121, .ref 122, .ref 123, .ref 124, .ref 125, .ref 126, .ref 127, .ref 128, .ref 129, .ref 130, .ref 131, .int 0, .ref 132, .int 0, .ref 133, .int 0, .ref 134, .ref 135, .ref 136, .ref 137, .ref 138, .ref 139, .ref 140, .ref 141, .ref 142, .ref 143, .ref 144, .ref 145, .ref 146, .int 0, .long 0, .int 0, .int 0, .ref 147]))) (hL : mj_L g = 6) : mj_V g l kY_TrustDeskLaw_law (d + 9) 1092 [(4, .int 0), (3, .ref 148), (2, .ref 99), (1, .ref 64), (0, .ref 50)] [] M 149 6 241 (fun r _ _ => r = some (.int 1)) := by
  refine mv_aload_n d_TrustDeskLaw_law_1092 rfl rfl ?_
  refine mv_aload_n d_TrustDeskLaw_law_1093 rfl rfl ?_
  refine mv_iload d_TrustDeskLaw_law_1094 rfl ?_
  refine mv_iconst (v := 1) d_TrustDeskLaw_law_1096 (by decide) ?_
  refine mv_iaddv (v := 1) d_TrustDeskLaw_law_1097 (by decide) ?_
  refine mv_sld (v := (mj_xs g 1)) d_TrustDeskLaw_law_1098 (by rw [hL]; unfold vp_in; decide) rfl ?_
  refine mv_aload_n d_TrustDeskLaw_law_1099 rfl rfl ?_
  refine mv_iload d_TrustDeskLaw_law_1100 rfl ?_
  refine mv_iconst (v := 2) d_TrustDeskLaw_law_1102 (by decide) ?_
  refine mv_iaddv (v := 2) d_TrustDeskLaw_law_1103 (by decide) ?_
  refine mv_sld (v := (mj_xs g 2)) d_TrustDeskLaw_law_1104 (by rw [hL]; unfold vp_in; decide) rfl ?_
  refine mv_aload_n d_TrustDeskLaw_law_1105 rfl rfl ?_
  refine mv_iload d_TrustDeskLaw_law_1106 rfl ?_
  refine mv_iconst (v := 3) d_TrustDeskLaw_law_1108 (by decide) ?_
  refine mv_iaddv (v := 3) d_TrustDeskLaw_law_1109 (by decide) ?_
  refine mv_sld (v := (mj_xs g 3)) d_TrustDeskLaw_law_1110 (by rw [hL]; unfold vp_in; decide) rfl ?_
  refine mv_aload_n d_TrustDeskLaw_law_1111 rfl rfl ?_
  refine mv_iload d_TrustDeskLaw_law_1112 rfl ?_
  refine mv_iconst (v := 4) d_TrustDeskLaw_law_1114 (by decide) ?_
  refine mv_iaddv (v := 4) d_TrustDeskLaw_law_1115 (by decide) ?_
  refine mv_sld (v := (mj_xs g 4)) d_TrustDeskLaw_law_1116 (by rw [hL]; unfold vp_in; decide) rfl ?_
  refine mv_callV_s (kc' := 6) (ks' := 241) [.int (mj_xs g 1), .int (mj_xs g 2), .int (mj_xs g 3), .int (mj_xs g 4)] [.int (mj_xs g 4), .int (mj_xs g 3), .int (mj_xs g 2), .int (mj_xs g 1), .ref 64] d_TrustDeskLaw_law_1117 lV_TrustDeskLaw_124 h_64 rfl (c_TrustDesk_due_0 (d := (d + 5)) (x1 := (mj_xs g 1)) (x2 := (mj_xs g 2)) (x3 := (mj_xs g 3)) (x4 := (mj_xs g 4)) (h_64 := h_64) (h_95 := h_95)) rfl (Nat.le_of_ble_eq_true rfl) (Nat.le_of_ble_eq_true rfl) (Nat.le_of_ble_eq_true rfl) rfl ?_
  refine mv_aload_n d_TrustDeskLaw_law_1120 rfl rfl ?_
  refine mv_aload_n d_TrustDeskLaw_law_1121 rfl rfl ?_
  refine mv_iload d_TrustDeskLaw_law_1122 rfl ?_
  refine mv_iconst (v := 1) d_TrustDeskLaw_law_1124 (by decide) ?_
  refine mv_iaddv (v := 1) d_TrustDeskLaw_law_1125 (by decide) ?_
  refine mv_sld (v := (mj_xs g 1)) d_TrustDeskLaw_law_1126 (by rw [hL]; unfold vp_in; decide) rfl ?_
  refine mv_aload_n d_TrustDeskLaw_law_1127 rfl rfl ?_
  refine mv_iload d_TrustDeskLaw_law_1128 rfl ?_
  refine mv_iconst (v := 2) d_TrustDeskLaw_law_1130 (by decide) ?_
  refine mv_iaddv (v := 2) d_TrustDeskLaw_law_1131 (by decide) ?_
  refine mv_sld (v := (mj_xs g 2)) d_TrustDeskLaw_law_1132 (by rw [hL]; unfold vp_in; decide) rfl ?_
  refine mv_aload_n d_TrustDeskLaw_law_1133 rfl rfl ?_
  refine mv_iload d_TrustDeskLaw_law_1134 rfl ?_
  refine mv_iconst (v := 3) d_TrustDeskLaw_law_1136 (by decide) ?_
  refine mv_iaddv (v := 3) d_TrustDeskLaw_law_1137 (by decide) ?_
  refine mv_sld (v := (mj_xs g 3)) d_TrustDeskLaw_law_1138 (by rw [hL]; unfold vp_in; decide) rfl ?_
  refine mv_aload_n d_TrustDeskLaw_law_1139 rfl rfl ?_
  refine mv_iload d_TrustDeskLaw_law_1140 rfl ?_
  refine mv_iconst (v := 4) d_TrustDeskLaw_law_1142 (by decide) ?_
  refine mv_iaddv (v := 4) d_TrustDeskLaw_law_1143 (by decide) ?_
  refine mv_sld (v := (mj_xs g 4)) d_TrustDeskLaw_law_1144 (by rw [hL]; unfold vp_in; decide) rfl ?_
  refine mv_callV_s (kc' := 6) (ks' := 241) [.int (mj_xs g 1), .int (mj_xs g 2), .int (mj_xs g 3), .int (mj_xs g 4)] [.int (mj_xs g 4), .int (mj_xs g 3), .int (mj_xs g 2), .int (mj_xs g 1), .ref 99, .int (-1)] d_TrustDeskLaw_law_1145 lV_TrustDeskLaw_128 h_99 rfl (c_TrustDeskModel_due_0 (d := (d + 6)) (x1 := (mj_xs g 1)) (x2 := (mj_xs g 2)) (x3 := (mj_xs g 3)) (x4 := (mj_xs g 4)) (h_99 := h_99)) rfl (Nat.le_of_ble_eq_true rfl) (Nat.le_of_ble_eq_true rfl) (Nat.le_of_ble_eq_true rfl) rfl ?_
  refine mv_icmp_eq_t (tgt := 1513) d_TrustDeskLaw_law_1148 (by decide) (by decide) ?_
  refine mv_iinc (v := 6) (lv' := [(4, .int 6), (3, .ref 148), (2, .ref 99), (1, .ref 64), (0, .ref 50)]) d_TrustDeskLaw_law_1513 rfl (by decide) (by decide) rfl ?_
  refine mv_goto (tgt := 23) d_TrustDeskLaw_law_1516 (by decide) ?_
  refine mv_iload d_TrustDeskLaw_law_23 rfl ?_
  refine mv_aload_n d_TrustDeskLaw_law_25 rfl rfl ?_
  refine mv_slen (v := 6) d_TrustDeskLaw_law_26 (by rw [hL]; rfl) ?_
  refine mv_bipush (v := 6) d_TrustDeskLaw_law_27 (by decide) ?_
  refine mv_isubv (v := 0) d_TrustDeskLaw_law_29 (by decide) ?_
  refine mv_icmp_gt_t (tgt := 1519) d_TrustDeskLaw_law_30 (by decide) (by decide) ?_
  refine mv_iconst (v := 1) d_TrustDeskLaw_law_1519 (by decide) ?_
  exact mv_iret d_TrustDeskLaw_law_1520 rfl (by first | rfl | decide) rfl
theorem d_TrustDeskLaw_law_1153 : decode kY_TrustDeskLaw_law.2.1 1153 = .ok (.aload_n 1, 1) := by decide +kernel
theorem d_TrustDeskLaw_law_1154 : decode kY_TrustDeskLaw_law.2.1 1154 = .ok (.aload_n 0, 1) := by decide +kernel
theorem d_TrustDeskLaw_law_1155 : decode kY_TrustDeskLaw_law.2.1 1155 = .ok (.iload 4, 2) := by decide +kernel
theorem d_TrustDeskLaw_law_1157 : decode kY_TrustDeskLaw_law.2.1 1157 = .ok (.iconst 1, 1) := by decide +kernel
theorem d_TrustDeskLaw_law_1158 : decode kY_TrustDeskLaw_law.2.1 1158 = .ok (.iadd, 1) := by decide +kernel
theorem d_TrustDeskLaw_law_1159 : decode kY_TrustDeskLaw_law.2.1 1159 = .ok (.iaload, 1) := by decide +kernel
theorem d_TrustDeskLaw_law_1160 : decode kY_TrustDeskLaw_law.2.1 1160 = .ok (.aload_n 0, 1) := by decide +kernel
theorem d_TrustDeskLaw_law_1161 : decode kY_TrustDeskLaw_law.2.1 1161 = .ok (.iload 4, 2) := by decide +kernel
theorem d_TrustDeskLaw_law_1163 : decode kY_TrustDeskLaw_law.2.1 1163 = .ok (.iconst 2, 1) := by decide +kernel
theorem d_TrustDeskLaw_law_1164 : decode kY_TrustDeskLaw_law.2.1 1164 = .ok (.iadd, 1) := by decide +kernel
theorem d_TrustDeskLaw_law_1165 : decode kY_TrustDeskLaw_law.2.1 1165 = .ok (.iaload, 1) := by decide +kernel
theorem d_TrustDeskLaw_law_1166 : decode kY_TrustDeskLaw_law.2.1 1166 = .ok (.aload_n 0, 1) := by decide +kernel
theorem d_TrustDeskLaw_law_1167 : decode kY_TrustDeskLaw_law.2.1 1167 = .ok (.iload 4, 2) := by decide +kernel
theorem d_TrustDeskLaw_law_1169 : decode kY_TrustDeskLaw_law.2.1 1169 = .ok (.iconst 3, 1) := by decide +kernel
theorem d_TrustDeskLaw_law_1170 : decode kY_TrustDeskLaw_law.2.1 1170 = .ok (.iadd, 1) := by decide +kernel
theorem d_TrustDeskLaw_law_1171 : decode kY_TrustDeskLaw_law.2.1 1171 = .ok (.iaload, 1) := by decide +kernel
theorem d_TrustDeskLaw_law_1172 : decode kY_TrustDeskLaw_law.2.1 1172 = .ok (.aload_n 0, 1) := by decide +kernel
theorem d_TrustDeskLaw_law_1173 : decode kY_TrustDeskLaw_law.2.1 1173 = .ok (.iload 4, 2) := by decide +kernel
theorem d_TrustDeskLaw_law_1175 : decode kY_TrustDeskLaw_law.2.1 1175 = .ok (.iconst 4, 1) := by decide +kernel
theorem d_TrustDeskLaw_law_1176 : decode kY_TrustDeskLaw_law.2.1 1176 = .ok (.iadd, 1) := by decide +kernel
theorem d_TrustDeskLaw_law_1177 : decode kY_TrustDeskLaw_law.2.1 1177 = .ok (.iaload, 1) := by decide +kernel
theorem d_TrustDeskLaw_law_1178 : decode kY_TrustDeskLaw_law.2.1 1178 = .ok (.invokevirtual 129, 3) := by decide +kernel
theorem lV_TrustDeskLaw_129 : mj_lV "TrustDeskLaw" 129 kY_TrustDesk_why 4 := ⟨⟨(mj_in1 (List.mem_of_getElem? (i := 1199) (by decide +kernel)) rfl), (mj_in1 (List.mem_of_getElem? (i := 1) (by decide +kernel)) rfl), (mj_in1 (List.mem_of_getElem? (i := 1202) (by decide +kernel)) rfl), by decide, rfl, by decide⟩, (mj_in1 (List.mem_of_getElem? (i := 1200) (by decide +kernel)) rfl), (mj_in1 (List.mem_of_getElem? (i := 1201) (by decide +kernel)) rfl)⟩
theorem d_TrustDeskLaw_law_1181 : decode kY_TrustDeskLaw_law.2.1 1181 = .ok (.aload_n 2, 1) := by decide +kernel
theorem d_TrustDeskLaw_law_1182 : decode kY_TrustDeskLaw_law.2.1 1182 = .ok (.aload_n 0, 1) := by decide +kernel
theorem d_TrustDeskLaw_law_1183 : decode kY_TrustDeskLaw_law.2.1 1183 = .ok (.iload 4, 2) := by decide +kernel
theorem d_TrustDeskLaw_law_1185 : decode kY_TrustDeskLaw_law.2.1 1185 = .ok (.iconst 1, 1) := by decide +kernel
theorem d_TrustDeskLaw_law_1186 : decode kY_TrustDeskLaw_law.2.1 1186 = .ok (.iadd, 1) := by decide +kernel
theorem d_TrustDeskLaw_law_1187 : decode kY_TrustDeskLaw_law.2.1 1187 = .ok (.iaload, 1) := by decide +kernel
theorem d_TrustDeskLaw_law_1188 : decode kY_TrustDeskLaw_law.2.1 1188 = .ok (.aload_n 0, 1) := by decide +kernel
theorem d_TrustDeskLaw_law_1189 : decode kY_TrustDeskLaw_law.2.1 1189 = .ok (.iload 4, 2) := by decide +kernel
theorem d_TrustDeskLaw_law_1191 : decode kY_TrustDeskLaw_law.2.1 1191 = .ok (.iconst 2, 1) := by decide +kernel
theorem d_TrustDeskLaw_law_1192 : decode kY_TrustDeskLaw_law.2.1 1192 = .ok (.iadd, 1) := by decide +kernel
theorem d_TrustDeskLaw_law_1193 : decode kY_TrustDeskLaw_law.2.1 1193 = .ok (.iaload, 1) := by decide +kernel
theorem d_TrustDeskLaw_law_1194 : decode kY_TrustDeskLaw_law.2.1 1194 = .ok (.aload_n 0, 1) := by decide +kernel
theorem d_TrustDeskLaw_law_1195 : decode kY_TrustDeskLaw_law.2.1 1195 = .ok (.iload 4, 2) := by decide +kernel
theorem d_TrustDeskLaw_law_1197 : decode kY_TrustDeskLaw_law.2.1 1197 = .ok (.iconst 3, 1) := by decide +kernel
theorem d_TrustDeskLaw_law_1198 : decode kY_TrustDeskLaw_law.2.1 1198 = .ok (.iadd, 1) := by decide +kernel
theorem d_TrustDeskLaw_law_1199 : decode kY_TrustDeskLaw_law.2.1 1199 = .ok (.iaload, 1) := by decide +kernel
theorem d_TrustDeskLaw_law_1200 : decode kY_TrustDeskLaw_law.2.1 1200 = .ok (.aload_n 0, 1) := by decide +kernel
theorem d_TrustDeskLaw_law_1201 : decode kY_TrustDeskLaw_law.2.1 1201 = .ok (.iload 4, 2) := by decide +kernel
theorem d_TrustDeskLaw_law_1203 : decode kY_TrustDeskLaw_law.2.1 1203 = .ok (.iconst 4, 1) := by decide +kernel
theorem d_TrustDeskLaw_law_1204 : decode kY_TrustDeskLaw_law.2.1 1204 = .ok (.iadd, 1) := by decide +kernel
theorem d_TrustDeskLaw_law_1205 : decode kY_TrustDeskLaw_law.2.1 1205 = .ok (.iaload, 1) := by decide +kernel
theorem d_TrustDeskLaw_law_1206 : decode kY_TrustDeskLaw_law.2.1 1206 = .ok (.invokevirtual 132, 3) := by decide +kernel
theorem lV_TrustDeskLaw_132 : mj_lV "TrustDeskLaw" 132 kY_TrustDeskModel_why 4 := ⟨⟨(mj_in1 (List.mem_of_getElem? (i := 1876) (by decide +kernel)) rfl), (mj_in1 (List.mem_of_getElem? (i := 10) (by decide +kernel)) rfl), (mj_in1 (List.mem_of_getElem? (i := 1879) (by decide +kernel)) rfl), by decide, rfl, by decide⟩, (mj_in1 (List.mem_of_getElem? (i := 1877) (by decide +kernel)) rfl), (mj_in1 (List.mem_of_getElem? (i := 1878) (by decide +kernel)) rfl)⟩
theorem d_TrustDeskLaw_law_1209 : decode kY_TrustDeskLaw_law.2.1 1209 = .ok (.if_icmp .eq 304, 3) := by decide +kernel
theorem lw_case_24 {g : mj_G} {l : Launch} {d nx : Nat} {M : mj_M} (h_64 : M 64 = some (.inr (12, [.ref 65, .ref 70, .ref 77, .ref 80, .ref 90, .ref 94, .ref 95, .ref 96, .ref 97, .ref 98, .int 0, .int 0, .int 0]))) (h_95 : M 95 = some (.inr (0, [.int 0, .ref 0, .int 0]))) (h_99 : M 99 = some (.inr (13, [.int 0, .int 0, .int 0, .ref 100, .ref 101, .ref 102, .ref 103, .ref 104, .ref 105, .ref 106, .ref 107, .ref 108, .ref 109, .ref 110, .int 0, .int 0, .int 0, .int 0, .int 0, .int 0, .int 0, .int (-1), .int 0, .int 0, .int 0, .ref 111, .ref 112, .int 0, .ref 113, .ref 114, .ref 115, .int 0, .int 0, .ref 116, .ref 117, .ref 118, .ref 119, .ref 120, .ref 121, .ref 122, .ref 123, .ref 124, .ref 125, .ref 126, .ref 127, .ref 128, .ref 129, .ref 130, .ref 131, .int 0, .ref 132, .int 0, .ref 133, .int 0, .ref 134, .ref 135, .ref 136, .ref 137, .ref 138, .ref 139, .ref 140, .ref 141, .ref 142, .ref 143, .ref 144, .ref 145, .ref 146, .int 0, .long 0, .int 0, .int 0, .ref 147]))) (hL : mj_L g = 6) : mj_V g l kY_TrustDeskLaw_law (d + 9) 1153 [(4, .int 0), (3, .ref 148), (2, .ref 99), (1, .ref 64), (0, .ref 50)] [] M 149 6 241 (fun r _ _ => r = some (.int 1)) := by
  refine mv_aload_n d_TrustDeskLaw_law_1153 rfl rfl ?_
  refine mv_aload_n d_TrustDeskLaw_law_1154 rfl rfl ?_
  refine mv_iload d_TrustDeskLaw_law_1155 rfl ?_
  refine mv_iconst (v := 1) d_TrustDeskLaw_law_1157 (by decide) ?_
  refine mv_iaddv (v := 1) d_TrustDeskLaw_law_1158 (by decide) ?_
  refine mv_sld (v := (mj_xs g 1)) d_TrustDeskLaw_law_1159 (by rw [hL]; unfold vp_in; decide) rfl ?_
  refine mv_aload_n d_TrustDeskLaw_law_1160 rfl rfl ?_
  refine mv_iload d_TrustDeskLaw_law_1161 rfl ?_
  refine mv_iconst (v := 2) d_TrustDeskLaw_law_1163 (by decide) ?_
  refine mv_iaddv (v := 2) d_TrustDeskLaw_law_1164 (by decide) ?_
  refine mv_sld (v := (mj_xs g 2)) d_TrustDeskLaw_law_1165 (by rw [hL]; unfold vp_in; decide) rfl ?_
  refine mv_aload_n d_TrustDeskLaw_law_1166 rfl rfl ?_
  refine mv_iload d_TrustDeskLaw_law_1167 rfl ?_
  refine mv_iconst (v := 3) d_TrustDeskLaw_law_1169 (by decide) ?_
  refine mv_iaddv (v := 3) d_TrustDeskLaw_law_1170 (by decide) ?_
  refine mv_sld (v := (mj_xs g 3)) d_TrustDeskLaw_law_1171 (by rw [hL]; unfold vp_in; decide) rfl ?_
  refine mv_aload_n d_TrustDeskLaw_law_1172 rfl rfl ?_
  refine mv_iload d_TrustDeskLaw_law_1173 rfl ?_
  refine mv_iconst (v := 4) d_TrustDeskLaw_law_1175 (by decide) ?_
  refine mv_iaddv (v := 4) d_TrustDeskLaw_law_1176 (by decide) ?_
  refine mv_sld (v := (mj_xs g 4)) d_TrustDeskLaw_law_1177 (by rw [hL]; unfold vp_in; decide) rfl ?_
  refine mv_callV_s (kc' := 6) (ks' := 241) [.int (mj_xs g 1), .int (mj_xs g 2), .int (mj_xs g 3), .int (mj_xs g 4)] [.int (mj_xs g 4), .int (mj_xs g 3), .int (mj_xs g 2), .int (mj_xs g 1), .ref 64] d_TrustDeskLaw_law_1178 lV_TrustDeskLaw_129 h_64 rfl (c_TrustDesk_why_0 (d := (d + 5)) (x1 := (mj_xs g 1)) (x2 := (mj_xs g 2)) (x3 := (mj_xs g 3)) (x4 := (mj_xs g 4)) (h_64 := h_64) (h_95 := h_95)) rfl (Nat.le_of_ble_eq_true rfl) (Nat.le_of_ble_eq_true rfl) (Nat.le_of_ble_eq_true rfl) rfl ?_
  refine mv_aload_n d_TrustDeskLaw_law_1181 rfl rfl ?_
  refine mv_aload_n d_TrustDeskLaw_law_1182 rfl rfl ?_
  refine mv_iload d_TrustDeskLaw_law_1183 rfl ?_
  refine mv_iconst (v := 1) d_TrustDeskLaw_law_1185 (by decide) ?_
  refine mv_iaddv (v := 1) d_TrustDeskLaw_law_1186 (by decide) ?_
  refine mv_sld (v := (mj_xs g 1)) d_TrustDeskLaw_law_1187 (by rw [hL]; unfold vp_in; decide) rfl ?_
  refine mv_aload_n d_TrustDeskLaw_law_1188 rfl rfl ?_
  refine mv_iload d_TrustDeskLaw_law_1189 rfl ?_
  refine mv_iconst (v := 2) d_TrustDeskLaw_law_1191 (by decide) ?_
  refine mv_iaddv (v := 2) d_TrustDeskLaw_law_1192 (by decide) ?_
  refine mv_sld (v := (mj_xs g 2)) d_TrustDeskLaw_law_1193 (by rw [hL]; unfold vp_in; decide) rfl ?_
  refine mv_aload_n d_TrustDeskLaw_law_1194 rfl rfl ?_
  refine mv_iload d_TrustDeskLaw_law_1195 rfl ?_
  refine mv_iconst (v := 3) d_TrustDeskLaw_law_1197 (by decide) ?_
  refine mv_iaddv (v := 3) d_TrustDeskLaw_law_1198 (by decide) ?_
  refine mv_sld (v := (mj_xs g 3)) d_TrustDeskLaw_law_1199 (by rw [hL]; unfold vp_in; decide) rfl ?_
  refine mv_aload_n d_TrustDeskLaw_law_1200 rfl rfl ?_
  refine mv_iload d_TrustDeskLaw_law_1201 rfl ?_
  refine mv_iconst (v := 4) d_TrustDeskLaw_law_1203 (by decide) ?_
  refine mv_iaddv (v := 4) d_TrustDeskLaw_law_1204 (by decide) ?_
  refine mv_sld (v := (mj_xs g 4)) d_TrustDeskLaw_law_1205 (by rw [hL]; unfold vp_in; decide) rfl ?_
  refine mv_callV_s (kc' := 6) (ks' := 241) [.int (mj_xs g 1), .int (mj_xs g 2), .int (mj_xs g 3), .int (mj_xs g 4)] [.int (mj_xs g 4), .int (mj_xs g 3), .int (mj_xs g 2), .int (mj_xs g 1), .ref 99, .int (-1)] d_TrustDeskLaw_law_1206 lV_TrustDeskLaw_132 h_99 rfl (c_TrustDeskModel_why_0 (d := (d + 6)) (x1 := (mj_xs g 1)) (x2 := (mj_xs g 2)) (x3 := (mj_xs g 3)) (x4 := (mj_xs g 4)) (h_99 := h_99)) rfl (Nat.le_of_ble_eq_true rfl) (Nat.le_of_ble_eq_true rfl) (Nat.le_of_ble_eq_true rfl) rfl ?_
  refine mv_icmp_eq_t (tgt := 1513) d_TrustDeskLaw_law_1209 (by decide) (by decide) ?_
  refine mv_iinc (v := 6) (lv' := [(4, .int 6), (3, .ref 148), (2, .ref 99), (1, .ref 64), (0, .ref 50)]) d_TrustDeskLaw_law_1513 rfl (by decide) (by decide) rfl ?_
  refine mv_goto (tgt := 23) d_TrustDeskLaw_law_1516 (by decide) ?_
  refine mv_iload d_TrustDeskLaw_law_23 rfl ?_
  refine mv_aload_n d_TrustDeskLaw_law_25 rfl rfl ?_
  refine mv_slen (v := 6) d_TrustDeskLaw_law_26 (by rw [hL]; rfl) ?_
  refine mv_bipush (v := 6) d_TrustDeskLaw_law_27 (by decide) ?_
  refine mv_isubv (v := 0) d_TrustDeskLaw_law_29 (by decide) ?_
  refine mv_icmp_gt_t (tgt := 1519) d_TrustDeskLaw_law_30 (by decide) (by decide) ?_
  refine mv_iconst (v := 1) d_TrustDeskLaw_law_1519 (by decide) ?_
  exact mv_iret d_TrustDeskLaw_law_1520 rfl (by first | rfl | decide) rfl
theorem d_TrustDeskLaw_law_1214 : decode kY_TrustDeskLaw_law.2.1 1214 = .ok (.aload_n 1, 1) := by decide +kernel
theorem d_TrustDeskLaw_law_1215 : decode kY_TrustDeskLaw_law.2.1 1215 = .ok (.aload_n 0, 1) := by decide +kernel
theorem d_TrustDeskLaw_law_1216 : decode kY_TrustDeskLaw_law.2.1 1216 = .ok (.iload 4, 2) := by decide +kernel
theorem d_TrustDeskLaw_law_1218 : decode kY_TrustDeskLaw_law.2.1 1218 = .ok (.iconst 1, 1) := by decide +kernel
theorem d_TrustDeskLaw_law_1219 : decode kY_TrustDeskLaw_law.2.1 1219 = .ok (.iadd, 1) := by decide +kernel
theorem d_TrustDeskLaw_law_1220 : decode kY_TrustDeskLaw_law.2.1 1220 = .ok (.iaload, 1) := by decide +kernel
theorem d_TrustDeskLaw_law_1221 : decode kY_TrustDeskLaw_law.2.1 1221 = .ok (.aload_n 0, 1) := by decide +kernel
theorem d_TrustDeskLaw_law_1222 : decode kY_TrustDeskLaw_law.2.1 1222 = .ok (.iload 4, 2) := by decide +kernel
theorem d_TrustDeskLaw_law_1224 : decode kY_TrustDeskLaw_law.2.1 1224 = .ok (.iconst 2, 1) := by decide +kernel
theorem d_TrustDeskLaw_law_1225 : decode kY_TrustDeskLaw_law.2.1 1225 = .ok (.iadd, 1) := by decide +kernel
theorem d_TrustDeskLaw_law_1226 : decode kY_TrustDeskLaw_law.2.1 1226 = .ok (.iaload, 1) := by decide +kernel
theorem d_TrustDeskLaw_law_1227 : decode kY_TrustDeskLaw_law.2.1 1227 = .ok (.invokevirtual 133, 3) := by decide +kernel
theorem lV_TrustDeskLaw_133 : mj_lV "TrustDeskLaw" 133 kY_TrustDesk_entry 2 := ⟨⟨(mj_in1 (List.mem_of_getElem? (i := 1203) (by decide +kernel)) rfl), (mj_in1 (List.mem_of_getElem? (i := 1) (by decide +kernel)) rfl), (mj_in1 (List.mem_of_getElem? (i := 1206) (by decide +kernel)) rfl), by decide, rfl, by decide⟩, (mj_in1 (List.mem_of_getElem? (i := 1204) (by decide +kernel)) rfl), (mj_in1 (List.mem_of_getElem? (i := 1205) (by decide +kernel)) rfl)⟩
theorem d_TrustDeskLaw_law_1230 : decode kY_TrustDeskLaw_law.2.1 1230 = .ok (.aload_n 2, 1) := by decide +kernel
theorem d_TrustDeskLaw_law_1231 : decode kY_TrustDeskLaw_law.2.1 1231 = .ok (.aload_n 0, 1) := by decide +kernel
theorem d_TrustDeskLaw_law_1232 : decode kY_TrustDeskLaw_law.2.1 1232 = .ok (.iload 4, 2) := by decide +kernel
theorem d_TrustDeskLaw_law_1234 : decode kY_TrustDeskLaw_law.2.1 1234 = .ok (.iconst 1, 1) := by decide +kernel
theorem d_TrustDeskLaw_law_1235 : decode kY_TrustDeskLaw_law.2.1 1235 = .ok (.iadd, 1) := by decide +kernel
theorem d_TrustDeskLaw_law_1236 : decode kY_TrustDeskLaw_law.2.1 1236 = .ok (.iaload, 1) := by decide +kernel
theorem d_TrustDeskLaw_law_1237 : decode kY_TrustDeskLaw_law.2.1 1237 = .ok (.aload_n 0, 1) := by decide +kernel
theorem d_TrustDeskLaw_law_1238 : decode kY_TrustDeskLaw_law.2.1 1238 = .ok (.iload 4, 2) := by decide +kernel
theorem d_TrustDeskLaw_law_1240 : decode kY_TrustDeskLaw_law.2.1 1240 = .ok (.iconst 2, 1) := by decide +kernel
theorem d_TrustDeskLaw_law_1241 : decode kY_TrustDeskLaw_law.2.1 1241 = .ok (.iadd, 1) := by decide +kernel
theorem d_TrustDeskLaw_law_1242 : decode kY_TrustDeskLaw_law.2.1 1242 = .ok (.iaload, 1) := by decide +kernel
theorem d_TrustDeskLaw_law_1243 : decode kY_TrustDeskLaw_law.2.1 1243 = .ok (.invokevirtual 136, 3) := by decide +kernel
theorem lV_TrustDeskLaw_136 : mj_lV "TrustDeskLaw" 136 kY_TrustDeskModel_entry 2 := ⟨⟨(mj_in1 (List.mem_of_getElem? (i := 2082) (by decide +kernel)) rfl), (mj_in1 (List.mem_of_getElem? (i := 10) (by decide +kernel)) rfl), (mj_in1 (List.mem_of_getElem? (i := 2085) (by decide +kernel)) rfl), by decide, rfl, by decide⟩, (mj_in1 (List.mem_of_getElem? (i := 2083) (by decide +kernel)) rfl), (mj_in1 (List.mem_of_getElem? (i := 2084) (by decide +kernel)) rfl)⟩
theorem d_TrustDeskLaw_law_1246 : decode kY_TrustDeskLaw_law.2.1 1246 = .ok (.if_icmp .eq 267, 3) := by decide +kernel
theorem lw_case_25 {g : mj_G} {l : Launch} {d nx : Nat} {M : mj_M} (h_64 : M 64 = some (.inr (12, [.ref 65, .ref 70, .ref 77, .ref 80, .ref 90, .ref 94, .ref 95, .ref 96, .ref 97, .ref 98, .int 0, .int 0, .int 0]))) (h_99 : M 99 = some (.inr (13, [.int 0, .int 0, .int 0, .ref 100, .ref 101, .ref 102, .ref 103, .ref 104, .ref 105, .ref 106, .ref 107, .ref 108, .ref 109, .ref 110, .int 0, .int 0, .int 0, .int 0, .int 0, .int 0, .int 0, .int (-1), .int 0, .int 0, .int 0, .ref 111, .ref 112, .int 0, .ref 113, .ref 114, .ref 115, .int 0, .int 0, .ref 116, .ref 117, .ref 118, .ref 119, .ref 120, .ref 121, .ref 122, .ref 123, .ref 124, .ref 125, .ref 126, .ref 127, .ref 128, .ref 129, .ref 130, .ref 131, .int 0, .ref 132, .int 0, .ref 133, .int 0, .ref 134, .ref 135, .ref 136, .ref 137, .ref 138, .ref 139, .ref 140, .ref 141, .ref 142, .ref 143, .ref 144, .ref 145, .ref 146, .int 0, .long 0, .int 0, .int 0, .ref 147]))) (hL : mj_L g = 6) : mj_V g l kY_TrustDeskLaw_law (d + 9) 1214 [(4, .int 0), (3, .ref 148), (2, .ref 99), (1, .ref 64), (0, .ref 50)] [] M 149 6 241 (fun r _ _ => r = some (.int 1)) := by
  refine mv_aload_n d_TrustDeskLaw_law_1214 rfl rfl ?_
  refine mv_aload_n d_TrustDeskLaw_law_1215 rfl rfl ?_
  refine mv_iload d_TrustDeskLaw_law_1216 rfl ?_
  refine mv_iconst (v := 1) d_TrustDeskLaw_law_1218 (by decide) ?_
  refine mv_iaddv (v := 1) d_TrustDeskLaw_law_1219 (by decide) ?_
  refine mv_sld (v := (mj_xs g 1)) d_TrustDeskLaw_law_1220 (by rw [hL]; unfold vp_in; decide) rfl ?_
  refine mv_aload_n d_TrustDeskLaw_law_1221 rfl rfl ?_
  refine mv_iload d_TrustDeskLaw_law_1222 rfl ?_
  refine mv_iconst (v := 2) d_TrustDeskLaw_law_1224 (by decide) ?_
  refine mv_iaddv (v := 2) d_TrustDeskLaw_law_1225 (by decide) ?_
  refine mv_sld (v := (mj_xs g 2)) d_TrustDeskLaw_law_1226 (by rw [hL]; unfold vp_in; decide) rfl ?_
  refine mv_callV_s (kc' := 6) (ks' := 241) [.int (mj_xs g 1), .int (mj_xs g 2)] [.int (mj_xs g 2), .int (mj_xs g 1), .ref 64] d_TrustDeskLaw_law_1227 lV_TrustDeskLaw_133 h_64 rfl (c_TrustDesk_entry_0 (d := (d + 8)) (x1 := (mj_xs g 1)) (x2 := (mj_xs g 2)) (h_64 := h_64)) rfl (Nat.le_of_ble_eq_true rfl) (Nat.le_of_ble_eq_true rfl) (Nat.le_of_ble_eq_true rfl) rfl ?_
  refine mv_aload_n d_TrustDeskLaw_law_1230 rfl rfl ?_
  refine mv_aload_n d_TrustDeskLaw_law_1231 rfl rfl ?_
  refine mv_iload d_TrustDeskLaw_law_1232 rfl ?_
  refine mv_iconst (v := 1) d_TrustDeskLaw_law_1234 (by decide) ?_
  refine mv_iaddv (v := 1) d_TrustDeskLaw_law_1235 (by decide) ?_
  refine mv_sld (v := (mj_xs g 1)) d_TrustDeskLaw_law_1236 (by rw [hL]; unfold vp_in; decide) rfl ?_
  refine mv_aload_n d_TrustDeskLaw_law_1237 rfl rfl ?_
  refine mv_iload d_TrustDeskLaw_law_1238 rfl ?_
  refine mv_iconst (v := 2) d_TrustDeskLaw_law_1240 (by decide) ?_
  refine mv_iaddv (v := 2) d_TrustDeskLaw_law_1241 (by decide) ?_
  refine mv_sld (v := (mj_xs g 2)) d_TrustDeskLaw_law_1242 (by rw [hL]; unfold vp_in; decide) rfl ?_
  refine mv_callV_s (kc' := 6) (ks' := 241) [.int (mj_xs g 1), .int (mj_xs g 2)] [.int (mj_xs g 2), .int (mj_xs g 1), .ref 99, .int (-1)] d_TrustDeskLaw_law_1243 lV_TrustDeskLaw_136 h_99 rfl (c_TrustDeskModel_entry_0 (d := (d + 8)) (x1 := (mj_xs g 1)) (x2 := (mj_xs g 2)) (h_99 := h_99)) rfl (Nat.le_of_ble_eq_true rfl) (Nat.le_of_ble_eq_true rfl) (Nat.le_of_ble_eq_true rfl) rfl ?_
  refine mv_icmp_eq_t (tgt := 1513) d_TrustDeskLaw_law_1246 (by decide) (by decide) ?_
  refine mv_iinc (v := 6) (lv' := [(4, .int 6), (3, .ref 148), (2, .ref 99), (1, .ref 64), (0, .ref 50)]) d_TrustDeskLaw_law_1513 rfl (by decide) (by decide) rfl ?_
  refine mv_goto (tgt := 23) d_TrustDeskLaw_law_1516 (by decide) ?_
  refine mv_iload d_TrustDeskLaw_law_23 rfl ?_
  refine mv_aload_n d_TrustDeskLaw_law_25 rfl rfl ?_
  refine mv_slen (v := 6) d_TrustDeskLaw_law_26 (by rw [hL]; rfl) ?_
  refine mv_bipush (v := 6) d_TrustDeskLaw_law_27 (by decide) ?_
  refine mv_isubv (v := 0) d_TrustDeskLaw_law_29 (by decide) ?_
  refine mv_icmp_gt_t (tgt := 1519) d_TrustDeskLaw_law_30 (by decide) (by decide) ?_
  refine mv_iconst (v := 1) d_TrustDeskLaw_law_1519 (by decide) ?_
  exact mv_iret d_TrustDeskLaw_law_1520 rfl (by first | rfl | decide) rfl
theorem d_TrustDeskLaw_law_1251 : decode kY_TrustDeskLaw_law.2.1 1251 = .ok (.aload_n 1, 1) := by decide +kernel
theorem d_TrustDeskLaw_law_1252 : decode kY_TrustDeskLaw_law.2.1 1252 = .ok (.aload_n 0, 1) := by decide +kernel
theorem d_TrustDeskLaw_law_1253 : decode kY_TrustDeskLaw_law.2.1 1253 = .ok (.iload 4, 2) := by decide +kernel
theorem d_TrustDeskLaw_law_1255 : decode kY_TrustDeskLaw_law.2.1 1255 = .ok (.iconst 1, 1) := by decide +kernel
theorem d_TrustDeskLaw_law_1256 : decode kY_TrustDeskLaw_law.2.1 1256 = .ok (.iadd, 1) := by decide +kernel
theorem d_TrustDeskLaw_law_1257 : decode kY_TrustDeskLaw_law.2.1 1257 = .ok (.iaload, 1) := by decide +kernel
theorem d_TrustDeskLaw_law_1258 : decode kY_TrustDeskLaw_law.2.1 1258 = .ok (.invokevirtual 137, 3) := by decide +kernel
theorem lV_TrustDeskLaw_137 : mj_lV "TrustDeskLaw" 137 kY_TrustDesk_nearest 1 := ⟨⟨(mj_in1 (List.mem_of_getElem? (i := 1207) (by decide +kernel)) rfl), (mj_in1 (List.mem_of_getElem? (i := 1) (by decide +kernel)) rfl), (mj_in1 (List.mem_of_getElem? (i := 1210) (by decide +kernel)) rfl), by decide, rfl, by decide⟩, (mj_in1 (List.mem_of_getElem? (i := 1208) (by decide +kernel)) rfl), (mj_in1 (List.mem_of_getElem? (i := 1209) (by decide +kernel)) rfl)⟩
theorem d_TrustDeskLaw_law_1261 : decode kY_TrustDeskLaw_law.2.1 1261 = .ok (.aload_n 2, 1) := by decide +kernel
theorem d_TrustDeskLaw_law_1262 : decode kY_TrustDeskLaw_law.2.1 1262 = .ok (.aload_n 0, 1) := by decide +kernel
theorem d_TrustDeskLaw_law_1263 : decode kY_TrustDeskLaw_law.2.1 1263 = .ok (.iload 4, 2) := by decide +kernel
theorem d_TrustDeskLaw_law_1265 : decode kY_TrustDeskLaw_law.2.1 1265 = .ok (.iconst 1, 1) := by decide +kernel
theorem d_TrustDeskLaw_law_1266 : decode kY_TrustDeskLaw_law.2.1 1266 = .ok (.iadd, 1) := by decide +kernel
theorem d_TrustDeskLaw_law_1267 : decode kY_TrustDeskLaw_law.2.1 1267 = .ok (.iaload, 1) := by decide +kernel
theorem d_TrustDeskLaw_law_1268 : decode kY_TrustDeskLaw_law.2.1 1268 = .ok (.invokevirtual 140, 3) := by decide +kernel
theorem lV_TrustDeskLaw_140 : mj_lV "TrustDeskLaw" 140 kY_TrustDeskModel_nearest 1 := ⟨⟨(mj_in1 (List.mem_of_getElem? (i := 2006) (by decide +kernel)) rfl), (mj_in1 (List.mem_of_getElem? (i := 10) (by decide +kernel)) rfl), (mj_in1 (List.mem_of_getElem? (i := 2009) (by decide +kernel)) rfl), by decide, rfl, by decide⟩, (mj_in1 (List.mem_of_getElem? (i := 2007) (by decide +kernel)) rfl), (mj_in1 (List.mem_of_getElem? (i := 2008) (by decide +kernel)) rfl)⟩
theorem d_TrustDeskLaw_law_1271 : decode kY_TrustDeskLaw_law.2.1 1271 = .ok (.if_icmp .eq 242, 3) := by decide +kernel
theorem lw_case_26 {g : mj_G} {l : Launch} {d nx : Nat} {M : mj_M} (h_64 : M 64 = some (.inr (12, [.ref 65, .ref 70, .ref 77, .ref 80, .ref 90, .ref 94, .ref 95, .ref 96, .ref 97, .ref 98, .int 0, .int 0, .int 0]))) (h_95 : M 95 = some (.inr (0, [.int 0, .ref 0, .int 0]))) (h_99 : M 99 = some (.inr (13, [.int 0, .int 0, .int 0, .ref 100, .ref 101, .ref 102, .ref 103, .ref 104, .ref 105, .ref 106, .ref 107, .ref 108, .ref 109, .ref 110, .int 0, .int 0, .int 0, .int 0, .int 0, .int 0, .int 0, .int (-1), .int 0, .int 0, .int 0, .ref 111, .ref 112, .int 0, .ref 113, .ref 114, .ref 115, .int 0, .int 0, .ref 116, .ref 117, .ref 118, .ref 119, .ref 120, .ref 121, .ref 122, .ref 123, .ref 124, .ref 125, .ref 126, .ref 127, .ref 128, .ref 129, .ref 130, .ref 131, .int 0, .ref 132, .int 0, .ref 133, .int 0, .ref 134, .ref 135, .ref 136, .ref 137, .ref 138, .ref 139, .ref 140, .ref 141, .ref 142, .ref 143, .ref 144, .ref 145, .ref 146, .int 0, .long 0, .int 0, .int 0, .ref 147]))) (hL : mj_L g = 6) : mj_V g l kY_TrustDeskLaw_law (d + 9) 1251 [(4, .int 0), (3, .ref 148), (2, .ref 99), (1, .ref 64), (0, .ref 50)] [] M 149 6 241 (fun r _ _ => r = some (.int 1)) := by
  refine mv_aload_n d_TrustDeskLaw_law_1251 rfl rfl ?_
  refine mv_aload_n d_TrustDeskLaw_law_1252 rfl rfl ?_
  refine mv_iload d_TrustDeskLaw_law_1253 rfl ?_
  refine mv_iconst (v := 1) d_TrustDeskLaw_law_1255 (by decide) ?_
  refine mv_iaddv (v := 1) d_TrustDeskLaw_law_1256 (by decide) ?_
  refine mv_sld (v := (mj_xs g 1)) d_TrustDeskLaw_law_1257 (by rw [hL]; unfold vp_in; decide) rfl ?_
  refine mv_callV_s (kc' := 6) (ks' := 241) [.int (mj_xs g 1)] [.int (mj_xs g 1), .ref 64] d_TrustDeskLaw_law_1258 lV_TrustDeskLaw_137 h_64 rfl (c_TrustDesk_nearest_0 (d := (d + 6)) (x1 := (mj_xs g 1)) (h_64 := h_64) (h_95 := h_95)) rfl (Nat.le_of_ble_eq_true rfl) (Nat.le_of_ble_eq_true rfl) (Nat.le_of_ble_eq_true rfl) rfl ?_
  refine mv_aload_n d_TrustDeskLaw_law_1261 rfl rfl ?_
  refine mv_aload_n d_TrustDeskLaw_law_1262 rfl rfl ?_
  refine mv_iload d_TrustDeskLaw_law_1263 rfl ?_
  refine mv_iconst (v := 1) d_TrustDeskLaw_law_1265 (by decide) ?_
  refine mv_iaddv (v := 1) d_TrustDeskLaw_law_1266 (by decide) ?_
  refine mv_sld (v := (mj_xs g 1)) d_TrustDeskLaw_law_1267 (by rw [hL]; unfold vp_in; decide) rfl ?_
  refine mv_callV_s (kc' := 6) (ks' := 241) [.int (mj_xs g 1)] [.int (mj_xs g 1), .ref 99, .int (-1)] d_TrustDeskLaw_law_1268 lV_TrustDeskLaw_140 h_99 rfl (c_TrustDeskModel_nearest_0 (d := (d + 6)) (x1 := (mj_xs g 1)) (h_99 := h_99)) rfl (Nat.le_of_ble_eq_true rfl) (Nat.le_of_ble_eq_true rfl) (Nat.le_of_ble_eq_true rfl) rfl ?_
  refine mv_icmp_eq_t (tgt := 1513) d_TrustDeskLaw_law_1271 (by decide) (by decide) ?_
  refine mv_iinc (v := 6) (lv' := [(4, .int 6), (3, .ref 148), (2, .ref 99), (1, .ref 64), (0, .ref 50)]) d_TrustDeskLaw_law_1513 rfl (by decide) (by decide) rfl ?_
  refine mv_goto (tgt := 23) d_TrustDeskLaw_law_1516 (by decide) ?_
  refine mv_iload d_TrustDeskLaw_law_23 rfl ?_
  refine mv_aload_n d_TrustDeskLaw_law_25 rfl rfl ?_
  refine mv_slen (v := 6) d_TrustDeskLaw_law_26 (by rw [hL]; rfl) ?_
  refine mv_bipush (v := 6) d_TrustDeskLaw_law_27 (by decide) ?_
  refine mv_isubv (v := 0) d_TrustDeskLaw_law_29 (by decide) ?_
  refine mv_icmp_gt_t (tgt := 1519) d_TrustDeskLaw_law_30 (by decide) (by decide) ?_
  refine mv_iconst (v := 1) d_TrustDeskLaw_law_1519 (by decide) ?_
  exact mv_iret d_TrustDeskLaw_law_1520 rfl (by first | rfl | decide) rfl
theorem d_TrustDeskLaw_law_1276 : decode kY_TrustDeskLaw_law.2.1 1276 = .ok (.aload_n 1, 1) := by decide +kernel
theorem d_TrustDeskLaw_law_1277 : decode kY_TrustDeskLaw_law.2.1 1277 = .ok (.aload_n 0, 1) := by decide +kernel
theorem d_TrustDeskLaw_law_1278 : decode kY_TrustDeskLaw_law.2.1 1278 = .ok (.iload 4, 2) := by decide +kernel
theorem d_TrustDeskLaw_law_1280 : decode kY_TrustDeskLaw_law.2.1 1280 = .ok (.iconst 1, 1) := by decide +kernel
theorem d_TrustDeskLaw_law_1281 : decode kY_TrustDeskLaw_law.2.1 1281 = .ok (.iadd, 1) := by decide +kernel
theorem d_TrustDeskLaw_law_1282 : decode kY_TrustDeskLaw_law.2.1 1282 = .ok (.iaload, 1) := by decide +kernel
theorem d_TrustDeskLaw_law_1283 : decode kY_TrustDeskLaw_law.2.1 1283 = .ok (.aload_n 0, 1) := by decide +kernel
theorem d_TrustDeskLaw_law_1284 : decode kY_TrustDeskLaw_law.2.1 1284 = .ok (.iload 4, 2) := by decide +kernel
theorem d_TrustDeskLaw_law_1286 : decode kY_TrustDeskLaw_law.2.1 1286 = .ok (.iconst 2, 1) := by decide +kernel
theorem d_TrustDeskLaw_law_1287 : decode kY_TrustDeskLaw_law.2.1 1287 = .ok (.iadd, 1) := by decide +kernel
theorem d_TrustDeskLaw_law_1288 : decode kY_TrustDeskLaw_law.2.1 1288 = .ok (.iaload, 1) := by decide +kernel
theorem d_TrustDeskLaw_law_1289 : decode kY_TrustDeskLaw_law.2.1 1289 = .ok (.aload_n 0, 1) := by decide +kernel
theorem d_TrustDeskLaw_law_1290 : decode kY_TrustDeskLaw_law.2.1 1290 = .ok (.iload 4, 2) := by decide +kernel
theorem d_TrustDeskLaw_law_1292 : decode kY_TrustDeskLaw_law.2.1 1292 = .ok (.iconst 3, 1) := by decide +kernel
theorem d_TrustDeskLaw_law_1293 : decode kY_TrustDeskLaw_law.2.1 1293 = .ok (.iadd, 1) := by decide +kernel
theorem d_TrustDeskLaw_law_1294 : decode kY_TrustDeskLaw_law.2.1 1294 = .ok (.iaload, 1) := by decide +kernel
theorem d_TrustDeskLaw_law_1295 : decode kY_TrustDeskLaw_law.2.1 1295 = .ok (.invokevirtual 141, 3) := by decide +kernel
theorem lV_TrustDeskLaw_141 : mj_lV "TrustDeskLaw" 141 kY_TrustDesk_marks 3 := ⟨⟨(mj_in1 (List.mem_of_getElem? (i := 1211) (by decide +kernel)) rfl), (mj_in1 (List.mem_of_getElem? (i := 1) (by decide +kernel)) rfl), (mj_in1 (List.mem_of_getElem? (i := 1214) (by decide +kernel)) rfl), by decide, rfl, by decide⟩, (mj_in1 (List.mem_of_getElem? (i := 1212) (by decide +kernel)) rfl), (mj_in1 (List.mem_of_getElem? (i := 1213) (by decide +kernel)) rfl)⟩
theorem d_TrustDeskLaw_law_1298 : decode kY_TrustDeskLaw_law.2.1 1298 = .ok (.aload_n 2, 1) := by decide +kernel
theorem d_TrustDeskLaw_law_1299 : decode kY_TrustDeskLaw_law.2.1 1299 = .ok (.aload_n 0, 1) := by decide +kernel
theorem d_TrustDeskLaw_law_1300 : decode kY_TrustDeskLaw_law.2.1 1300 = .ok (.iload 4, 2) := by decide +kernel
theorem d_TrustDeskLaw_law_1302 : decode kY_TrustDeskLaw_law.2.1 1302 = .ok (.iconst 1, 1) := by decide +kernel
theorem d_TrustDeskLaw_law_1303 : decode kY_TrustDeskLaw_law.2.1 1303 = .ok (.iadd, 1) := by decide +kernel
theorem d_TrustDeskLaw_law_1304 : decode kY_TrustDeskLaw_law.2.1 1304 = .ok (.iaload, 1) := by decide +kernel
theorem d_TrustDeskLaw_law_1305 : decode kY_TrustDeskLaw_law.2.1 1305 = .ok (.aload_n 0, 1) := by decide +kernel
theorem d_TrustDeskLaw_law_1306 : decode kY_TrustDeskLaw_law.2.1 1306 = .ok (.iload 4, 2) := by decide +kernel
theorem d_TrustDeskLaw_law_1308 : decode kY_TrustDeskLaw_law.2.1 1308 = .ok (.iconst 2, 1) := by decide +kernel
theorem d_TrustDeskLaw_law_1309 : decode kY_TrustDeskLaw_law.2.1 1309 = .ok (.iadd, 1) := by decide +kernel
theorem d_TrustDeskLaw_law_1310 : decode kY_TrustDeskLaw_law.2.1 1310 = .ok (.iaload, 1) := by decide +kernel
theorem d_TrustDeskLaw_law_1311 : decode kY_TrustDeskLaw_law.2.1 1311 = .ok (.aload_n 0, 1) := by decide +kernel
theorem d_TrustDeskLaw_law_1312 : decode kY_TrustDeskLaw_law.2.1 1312 = .ok (.iload 4, 2) := by decide +kernel
theorem d_TrustDeskLaw_law_1314 : decode kY_TrustDeskLaw_law.2.1 1314 = .ok (.iconst 3, 1) := by decide +kernel
theorem d_TrustDeskLaw_law_1315 : decode kY_TrustDeskLaw_law.2.1 1315 = .ok (.iadd, 1) := by decide +kernel
theorem d_TrustDeskLaw_law_1316 : decode kY_TrustDeskLaw_law.2.1 1316 = .ok (.iaload, 1) := by decide +kernel
theorem d_TrustDeskLaw_law_1317 : decode kY_TrustDeskLaw_law.2.1 1317 = .ok (.invokevirtual 144, 3) := by decide +kernel
theorem lV_TrustDeskLaw_144 : mj_lV "TrustDeskLaw" 144 kY_TrustDeskModel_marks 3 := ⟨⟨(mj_in1 (List.mem_of_getElem? (i := 2010) (by decide +kernel)) rfl), (mj_in1 (List.mem_of_getElem? (i := 10) (by decide +kernel)) rfl), (mj_in1 (List.mem_of_getElem? (i := 2013) (by decide +kernel)) rfl), by decide, rfl, by decide⟩, (mj_in1 (List.mem_of_getElem? (i := 2011) (by decide +kernel)) rfl), (mj_in1 (List.mem_of_getElem? (i := 2012) (by decide +kernel)) rfl)⟩
theorem d_TrustDeskLaw_law_1320 : decode kY_TrustDeskLaw_law.2.1 1320 = .ok (.if_icmp .eq 193, 3) := by decide +kernel
theorem lw_case_27 {g : mj_G} {l : Launch} {d nx : Nat} {M : mj_M} (h_64 : M 64 = some (.inr (12, [.ref 65, .ref 70, .ref 77, .ref 80, .ref 90, .ref 94, .ref 95, .ref 96, .ref 97, .ref 98, .int 0, .int 0, .int 0]))) (h_95 : M 95 = some (.inr (0, [.int 0, .ref 0, .int 0]))) (h_96 : M 96 = some (.inr (0, [.int 0, .ref 0, .int 0]))) (h_99 : M 99 = some (.inr (13, [.int 0, .int 0, .int 0, .ref 100, .ref 101, .ref 102, .ref 103, .ref 104, .ref 105, .ref 106, .ref 107, .ref 108, .ref 109, .ref 110, .int 0, .int 0, .int 0, .int 0, .int 0, .int 0, .int 0, .int (-1), .int 0, .int 0, .int 0, .ref 111, .ref 112, .int 0, .ref 113, .ref 114, .ref 115, .int 0, .int 0, .ref 116, .ref 117, .ref 118, .ref 119, .ref 120, .ref 121, .ref 122, .ref 123, .ref 124, .ref 125, .ref 126, .ref 127, .ref 128, .ref 129, .ref 130, .ref 131, .int 0, .ref 132, .int 0, .ref 133, .int 0, .ref 134, .ref 135, .ref 136, .ref 137, .ref 138, .ref 139, .ref 140, .ref 141, .ref 142, .ref 143, .ref 144, .ref 145, .ref 146, .int 0, .long 0, .int 0, .int 0, .ref 147]))) (hL : mj_L g = 6) : mj_V g l kY_TrustDeskLaw_law (d + 9) 1276 [(4, .int 0), (3, .ref 148), (2, .ref 99), (1, .ref 64), (0, .ref 50)] [] M 149 6 241 (fun r _ _ => r = some (.int 1)) := by
  refine mv_aload_n d_TrustDeskLaw_law_1276 rfl rfl ?_
  refine mv_aload_n d_TrustDeskLaw_law_1277 rfl rfl ?_
  refine mv_iload d_TrustDeskLaw_law_1278 rfl ?_
  refine mv_iconst (v := 1) d_TrustDeskLaw_law_1280 (by decide) ?_
  refine mv_iaddv (v := 1) d_TrustDeskLaw_law_1281 (by decide) ?_
  refine mv_sld (v := (mj_xs g 1)) d_TrustDeskLaw_law_1282 (by rw [hL]; unfold vp_in; decide) rfl ?_
  refine mv_aload_n d_TrustDeskLaw_law_1283 rfl rfl ?_
  refine mv_iload d_TrustDeskLaw_law_1284 rfl ?_
  refine mv_iconst (v := 2) d_TrustDeskLaw_law_1286 (by decide) ?_
  refine mv_iaddv (v := 2) d_TrustDeskLaw_law_1287 (by decide) ?_
  refine mv_sld (v := (mj_xs g 2)) d_TrustDeskLaw_law_1288 (by rw [hL]; unfold vp_in; decide) rfl ?_
  refine mv_aload_n d_TrustDeskLaw_law_1289 rfl rfl ?_
  refine mv_iload d_TrustDeskLaw_law_1290 rfl ?_
  refine mv_iconst (v := 3) d_TrustDeskLaw_law_1292 (by decide) ?_
  refine mv_iaddv (v := 3) d_TrustDeskLaw_law_1293 (by decide) ?_
  refine mv_sld (v := (mj_xs g 3)) d_TrustDeskLaw_law_1294 (by rw [hL]; unfold vp_in; decide) rfl ?_
  refine mv_callV_s (kc' := 6) (ks' := 241) [.int (mj_xs g 1), .int (mj_xs g 2), .int (mj_xs g 3)] [.int (mj_xs g 3), .int (mj_xs g 2), .int (mj_xs g 1), .ref 64] d_TrustDeskLaw_law_1295 lV_TrustDeskLaw_141 h_64 rfl (c_TrustDesk_marks_0 (d := (d + 6)) (x1 := (mj_xs g 1)) (x2 := (mj_xs g 2)) (x3 := (mj_xs g 3)) (h_64 := h_64) (h_95 := h_95) (h_96 := h_96)) rfl (Nat.le_of_ble_eq_true rfl) (Nat.le_of_ble_eq_true rfl) (Nat.le_of_ble_eq_true rfl) rfl ?_
  refine mv_aload_n d_TrustDeskLaw_law_1298 rfl rfl ?_
  refine mv_aload_n d_TrustDeskLaw_law_1299 rfl rfl ?_
  refine mv_iload d_TrustDeskLaw_law_1300 rfl ?_
  refine mv_iconst (v := 1) d_TrustDeskLaw_law_1302 (by decide) ?_
  refine mv_iaddv (v := 1) d_TrustDeskLaw_law_1303 (by decide) ?_
  refine mv_sld (v := (mj_xs g 1)) d_TrustDeskLaw_law_1304 (by rw [hL]; unfold vp_in; decide) rfl ?_
  refine mv_aload_n d_TrustDeskLaw_law_1305 rfl rfl ?_
  refine mv_iload d_TrustDeskLaw_law_1306 rfl ?_
  refine mv_iconst (v := 2) d_TrustDeskLaw_law_1308 (by decide) ?_
  refine mv_iaddv (v := 2) d_TrustDeskLaw_law_1309 (by decide) ?_
  refine mv_sld (v := (mj_xs g 2)) d_TrustDeskLaw_law_1310 (by rw [hL]; unfold vp_in; decide) rfl ?_
  refine mv_aload_n d_TrustDeskLaw_law_1311 rfl rfl ?_
  refine mv_iload d_TrustDeskLaw_law_1312 rfl ?_
  refine mv_iconst (v := 3) d_TrustDeskLaw_law_1314 (by decide) ?_
  refine mv_iaddv (v := 3) d_TrustDeskLaw_law_1315 (by decide) ?_
  refine mv_sld (v := (mj_xs g 3)) d_TrustDeskLaw_law_1316 (by rw [hL]; unfold vp_in; decide) rfl ?_
  refine mv_callV_s (kc' := 6) (ks' := 241) [.int (mj_xs g 1), .int (mj_xs g 2), .int (mj_xs g 3)] [.int (mj_xs g 3), .int (mj_xs g 2), .int (mj_xs g 1), .ref 99, .int (-1)] d_TrustDeskLaw_law_1317 lV_TrustDeskLaw_144 h_99 rfl (c_TrustDeskModel_marks_0 (d := (d + 7)) (x1 := (mj_xs g 1)) (x2 := (mj_xs g 2)) (x3 := (mj_xs g 3)) (h_99 := h_99)) rfl (Nat.le_of_ble_eq_true rfl) (Nat.le_of_ble_eq_true rfl) (Nat.le_of_ble_eq_true rfl) rfl ?_
  refine mv_icmp_eq_t (tgt := 1513) d_TrustDeskLaw_law_1320 (by decide) (by decide) ?_
  refine mv_iinc (v := 6) (lv' := [(4, .int 6), (3, .ref 148), (2, .ref 99), (1, .ref 64), (0, .ref 50)]) d_TrustDeskLaw_law_1513 rfl (by decide) (by decide) rfl ?_
  refine mv_goto (tgt := 23) d_TrustDeskLaw_law_1516 (by decide) ?_
  refine mv_iload d_TrustDeskLaw_law_23 rfl ?_
  refine mv_aload_n d_TrustDeskLaw_law_25 rfl rfl ?_
  refine mv_slen (v := 6) d_TrustDeskLaw_law_26 (by rw [hL]; rfl) ?_
  refine mv_bipush (v := 6) d_TrustDeskLaw_law_27 (by decide) ?_
  refine mv_isubv (v := 0) d_TrustDeskLaw_law_29 (by decide) ?_
  refine mv_icmp_gt_t (tgt := 1519) d_TrustDeskLaw_law_30 (by decide) (by decide) ?_
  refine mv_iconst (v := 1) d_TrustDeskLaw_law_1519 (by decide) ?_
  exact mv_iret d_TrustDeskLaw_law_1520 rfl (by first | rfl | decide) rfl
theorem d_TrustDeskLaw_law_1325 : decode kY_TrustDeskLaw_law.2.1 1325 = .ok (.aload_n 1, 1) := by decide +kernel
theorem d_TrustDeskLaw_law_1326 : decode kY_TrustDeskLaw_law.2.1 1326 = .ok (.aload_n 0, 1) := by decide +kernel
theorem d_TrustDeskLaw_law_1327 : decode kY_TrustDeskLaw_law.2.1 1327 = .ok (.iload 4, 2) := by decide +kernel
theorem d_TrustDeskLaw_law_1329 : decode kY_TrustDeskLaw_law.2.1 1329 = .ok (.iconst 1, 1) := by decide +kernel
theorem d_TrustDeskLaw_law_1330 : decode kY_TrustDeskLaw_law.2.1 1330 = .ok (.iadd, 1) := by decide +kernel
theorem d_TrustDeskLaw_law_1331 : decode kY_TrustDeskLaw_law.2.1 1331 = .ok (.iaload, 1) := by decide +kernel
theorem d_TrustDeskLaw_law_1332 : decode kY_TrustDeskLaw_law.2.1 1332 = .ok (.invokevirtual 145, 3) := by decide +kernel
theorem lV_TrustDeskLaw_145 : mj_lV "TrustDeskLaw" 145 kY_TrustDesk_group 1 := ⟨⟨(mj_in1 (List.mem_of_getElem? (i := 1215) (by decide +kernel)) rfl), (mj_in1 (List.mem_of_getElem? (i := 1) (by decide +kernel)) rfl), (mj_in1 (List.mem_of_getElem? (i := 1218) (by decide +kernel)) rfl), by decide, rfl, by decide⟩, (mj_in1 (List.mem_of_getElem? (i := 1216) (by decide +kernel)) rfl), (mj_in1 (List.mem_of_getElem? (i := 1217) (by decide +kernel)) rfl)⟩
theorem d_TrustDeskLaw_law_1335 : decode kY_TrustDeskLaw_law.2.1 1335 = .ok (.aload_n 2, 1) := by decide +kernel
theorem d_TrustDeskLaw_law_1336 : decode kY_TrustDeskLaw_law.2.1 1336 = .ok (.aload_n 0, 1) := by decide +kernel
theorem d_TrustDeskLaw_law_1337 : decode kY_TrustDeskLaw_law.2.1 1337 = .ok (.iload 4, 2) := by decide +kernel
theorem d_TrustDeskLaw_law_1339 : decode kY_TrustDeskLaw_law.2.1 1339 = .ok (.iconst 1, 1) := by decide +kernel
theorem d_TrustDeskLaw_law_1340 : decode kY_TrustDeskLaw_law.2.1 1340 = .ok (.iadd, 1) := by decide +kernel
theorem d_TrustDeskLaw_law_1341 : decode kY_TrustDeskLaw_law.2.1 1341 = .ok (.iaload, 1) := by decide +kernel
theorem d_TrustDeskLaw_law_1342 : decode kY_TrustDeskLaw_law.2.1 1342 = .ok (.invokevirtual 148, 3) := by decide +kernel
theorem lV_TrustDeskLaw_148 : mj_lV "TrustDeskLaw" 148 kY_TrustDeskModel_group 1 := ⟨⟨(mj_in1 (List.mem_of_getElem? (i := 2014) (by decide +kernel)) rfl), (mj_in1 (List.mem_of_getElem? (i := 10) (by decide +kernel)) rfl), (mj_in1 (List.mem_of_getElem? (i := 2017) (by decide +kernel)) rfl), by decide, rfl, by decide⟩, (mj_in1 (List.mem_of_getElem? (i := 2015) (by decide +kernel)) rfl), (mj_in1 (List.mem_of_getElem? (i := 2016) (by decide +kernel)) rfl)⟩
theorem d_TrustDeskLaw_law_1345 : decode kY_TrustDeskLaw_law.2.1 1345 = .ok (.lcmp, 1) := by decide +kernel
theorem d_TrustDeskLaw_law_1346 : decode kY_TrustDeskLaw_law.2.1 1346 = .ok (.ifCond .eq 167, 3) := by decide +kernel
theorem lw_case_28 {g : mj_G} {l : Launch} {d nx : Nat} {M : mj_M} (h_64 : M 64 = some (.inr (12, [.ref 65, .ref 70, .ref 77, .ref 80, .ref 90, .ref 94, .ref 95, .ref 96, .ref 97, .ref 98, .int 0, .int 0, .int 0]))) (h_95 : M 95 = some (.inr (0, [.int 0, .ref 0, .int 0]))) (h_99 : M 99 = some (.inr (13, [.int 0, .int 0, .int 0, .ref 100, .ref 101, .ref 102, .ref 103, .ref 104, .ref 105, .ref 106, .ref 107, .ref 108, .ref 109, .ref 110, .int 0, .int 0, .int 0, .int 0, .int 0, .int 0, .int 0, .int (-1), .int 0, .int 0, .int 0, .ref 111, .ref 112, .int 0, .ref 113, .ref 114, .ref 115, .int 0, .int 0, .ref 116, .ref 117, .ref 118, .ref 119, .ref 120, .ref 121, .ref 122, .ref 123, .ref 124, .ref 125, .ref 126, .ref 127, .ref 128, .ref 129, .ref 130, .ref 131, .int 0, .ref 132, .int 0, .ref 133, .int 0, .ref 134, .ref 135, .ref 136, .ref 137, .ref 138, .ref 139, .ref 140, .ref 141, .ref 142, .ref 143, .ref 144, .ref 145, .ref 146, .int 0, .long 0, .int 0, .int 0, .ref 147]))) (hL : mj_L g = 6) : mj_V g l kY_TrustDeskLaw_law (d + 9) 1325 [(4, .int 0), (3, .ref 148), (2, .ref 99), (1, .ref 64), (0, .ref 50)] [] M 149 6 241 (fun r _ _ => r = some (.int 1)) := by
  refine mv_aload_n d_TrustDeskLaw_law_1325 rfl rfl ?_
  refine mv_aload_n d_TrustDeskLaw_law_1326 rfl rfl ?_
  refine mv_iload d_TrustDeskLaw_law_1327 rfl ?_
  refine mv_iconst (v := 1) d_TrustDeskLaw_law_1329 (by decide) ?_
  refine mv_iaddv (v := 1) d_TrustDeskLaw_law_1330 (by decide) ?_
  refine mv_sld (v := (mj_xs g 1)) d_TrustDeskLaw_law_1331 (by rw [hL]; unfold vp_in; decide) rfl ?_
  refine mv_callV_s (kc' := 6) (ks' := 241) [.int (mj_xs g 1)] [.int (mj_xs g 1), .ref 64] d_TrustDeskLaw_law_1332 lV_TrustDeskLaw_145 h_64 rfl (c_TrustDesk_group_0 (d := (d + 5)) (x1 := (mj_xs g 1)) (h_64 := h_64) (h_95 := h_95)) rfl (Nat.le_of_ble_eq_true rfl) (Nat.le_of_ble_eq_true rfl) (Nat.le_of_ble_eq_true rfl) rfl ?_
  refine mv_aload_n d_TrustDeskLaw_law_1335 rfl rfl ?_
  refine mv_aload_n d_TrustDeskLaw_law_1336 rfl rfl ?_
  refine mv_iload d_TrustDeskLaw_law_1337 rfl ?_
  refine mv_iconst (v := 1) d_TrustDeskLaw_law_1339 (by decide) ?_
  refine mv_iaddv (v := 1) d_TrustDeskLaw_law_1340 (by decide) ?_
  refine mv_sld (v := (mj_xs g 1)) d_TrustDeskLaw_law_1341 (by rw [hL]; unfold vp_in; decide) rfl ?_
  refine mv_callV_s (kc' := 6) (ks' := 241) [.int (mj_xs g 1)] [.int (mj_xs g 1), .ref 99, .long (-1)] d_TrustDeskLaw_law_1342 lV_TrustDeskLaw_148 h_99 rfl (c_TrustDeskModel_group_0 (d := (d + 4)) (x1 := (mj_xs g 1)) (h_99 := h_99)) rfl (Nat.le_of_ble_eq_true rfl) (Nat.le_of_ble_eq_true rfl) (Nat.le_of_ble_eq_true rfl) rfl ?_
  refine mv_leq_t (tgt := 1513) d_TrustDeskLaw_law_1345 d_TrustDeskLaw_law_1346 (by decide) ?_
  refine mv_iinc (v := 6) (lv' := [(4, .int 6), (3, .ref 148), (2, .ref 99), (1, .ref 64), (0, .ref 50)]) d_TrustDeskLaw_law_1513 rfl (by decide) (by decide) rfl ?_
  refine mv_goto (tgt := 23) d_TrustDeskLaw_law_1516 (by decide) ?_
  refine mv_iload d_TrustDeskLaw_law_23 rfl ?_
  refine mv_aload_n d_TrustDeskLaw_law_25 rfl rfl ?_
  refine mv_slen (v := 6) d_TrustDeskLaw_law_26 (by rw [hL]; rfl) ?_
  refine mv_bipush (v := 6) d_TrustDeskLaw_law_27 (by decide) ?_
  refine mv_isubv (v := 0) d_TrustDeskLaw_law_29 (by decide) ?_
  refine mv_icmp_gt_t (tgt := 1519) d_TrustDeskLaw_law_30 (by decide) (by decide) ?_
  refine mv_iconst (v := 1) d_TrustDeskLaw_law_1519 (by decide) ?_
  exact mv_iret d_TrustDeskLaw_law_1520 rfl (by first | rfl | decide) rfl
theorem d_TrustDeskLaw_law_1351 : decode kY_TrustDeskLaw_law.2.1 1351 = .ok (.aload_n 1, 1) := by decide +kernel
theorem d_TrustDeskLaw_law_1352 : decode kY_TrustDeskLaw_law.2.1 1352 = .ok (.aload_n 0, 1) := by decide +kernel
theorem d_TrustDeskLaw_law_1353 : decode kY_TrustDeskLaw_law.2.1 1353 = .ok (.iload 4, 2) := by decide +kernel
theorem d_TrustDeskLaw_law_1355 : decode kY_TrustDeskLaw_law.2.1 1355 = .ok (.iconst 1, 1) := by decide +kernel
theorem d_TrustDeskLaw_law_1356 : decode kY_TrustDeskLaw_law.2.1 1356 = .ok (.iadd, 1) := by decide +kernel
theorem d_TrustDeskLaw_law_1357 : decode kY_TrustDeskLaw_law.2.1 1357 = .ok (.iaload, 1) := by decide +kernel
theorem d_TrustDeskLaw_law_1358 : decode kY_TrustDeskLaw_law.2.1 1358 = .ok (.aload_n 0, 1) := by decide +kernel
theorem d_TrustDeskLaw_law_1359 : decode kY_TrustDeskLaw_law.2.1 1359 = .ok (.iload 4, 2) := by decide +kernel
theorem d_TrustDeskLaw_law_1361 : decode kY_TrustDeskLaw_law.2.1 1361 = .ok (.iconst 2, 1) := by decide +kernel
theorem d_TrustDeskLaw_law_1362 : decode kY_TrustDeskLaw_law.2.1 1362 = .ok (.iadd, 1) := by decide +kernel
theorem d_TrustDeskLaw_law_1363 : decode kY_TrustDeskLaw_law.2.1 1363 = .ok (.iaload, 1) := by decide +kernel
theorem d_TrustDeskLaw_law_1364 : decode kY_TrustDeskLaw_law.2.1 1364 = .ok (.invokevirtual 149, 3) := by decide +kernel
theorem lV_TrustDeskLaw_149 : mj_lV "TrustDeskLaw" 149 kY_TrustDesk_grouped 2 := ⟨⟨(mj_in1 (List.mem_of_getElem? (i := 1265) (by decide +kernel)) rfl), (mj_in1 (List.mem_of_getElem? (i := 1) (by decide +kernel)) rfl), (mj_in1 (List.mem_of_getElem? (i := 1268) (by decide +kernel)) rfl), by decide, rfl, by decide⟩, (mj_in1 (List.mem_of_getElem? (i := 1266) (by decide +kernel)) rfl), (mj_in1 (List.mem_of_getElem? (i := 1267) (by decide +kernel)) rfl)⟩
theorem d_TrustDeskLaw_law_1367 : decode kY_TrustDeskLaw_law.2.1 1367 = .ok (.aload_n 2, 1) := by decide +kernel
theorem d_TrustDeskLaw_law_1368 : decode kY_TrustDeskLaw_law.2.1 1368 = .ok (.aload_n 0, 1) := by decide +kernel
theorem d_TrustDeskLaw_law_1369 : decode kY_TrustDeskLaw_law.2.1 1369 = .ok (.iload 4, 2) := by decide +kernel
theorem d_TrustDeskLaw_law_1371 : decode kY_TrustDeskLaw_law.2.1 1371 = .ok (.iconst 1, 1) := by decide +kernel
theorem d_TrustDeskLaw_law_1372 : decode kY_TrustDeskLaw_law.2.1 1372 = .ok (.iadd, 1) := by decide +kernel
theorem d_TrustDeskLaw_law_1373 : decode kY_TrustDeskLaw_law.2.1 1373 = .ok (.iaload, 1) := by decide +kernel
theorem d_TrustDeskLaw_law_1374 : decode kY_TrustDeskLaw_law.2.1 1374 = .ok (.aload_n 0, 1) := by decide +kernel
theorem d_TrustDeskLaw_law_1375 : decode kY_TrustDeskLaw_law.2.1 1375 = .ok (.iload 4, 2) := by decide +kernel
theorem d_TrustDeskLaw_law_1377 : decode kY_TrustDeskLaw_law.2.1 1377 = .ok (.iconst 2, 1) := by decide +kernel
theorem d_TrustDeskLaw_law_1378 : decode kY_TrustDeskLaw_law.2.1 1378 = .ok (.iadd, 1) := by decide +kernel
theorem d_TrustDeskLaw_law_1379 : decode kY_TrustDeskLaw_law.2.1 1379 = .ok (.iaload, 1) := by decide +kernel
theorem d_TrustDeskLaw_law_1380 : decode kY_TrustDeskLaw_law.2.1 1380 = .ok (.invokevirtual 152, 3) := by decide +kernel
theorem lV_TrustDeskLaw_152 : mj_lV "TrustDeskLaw" 152 kY_TrustDeskModel_grouped 2 := ⟨⟨(mj_in1 (List.mem_of_getElem? (i := 2041) (by decide +kernel)) rfl), (mj_in1 (List.mem_of_getElem? (i := 10) (by decide +kernel)) rfl), (mj_in1 (List.mem_of_getElem? (i := 2044) (by decide +kernel)) rfl), by decide, rfl, by decide⟩, (mj_in1 (List.mem_of_getElem? (i := 2042) (by decide +kernel)) rfl), (mj_in1 (List.mem_of_getElem? (i := 2043) (by decide +kernel)) rfl)⟩
theorem d_TrustDeskLaw_law_1383 : decode kY_TrustDeskLaw_law.2.1 1383 = .ok (.if_icmp .eq 130, 3) := by decide +kernel
theorem lw_case_29 {g : mj_G} {l : Launch} {d nx : Nat} {M : mj_M} (h_64 : M 64 = some (.inr (12, [.ref 65, .ref 70, .ref 77, .ref 80, .ref 90, .ref 94, .ref 95, .ref 96, .ref 97, .ref 98, .int 0, .int 0, .int 0]))) (h_95 : M 95 = some (.inr (0, [.int 0, .ref 0, .int 0]))) (h_99 : M 99 = some (.inr (13, [.int 0, .int 0, .int 0, .ref 100, .ref 101, .ref 102, .ref 103, .ref 104, .ref 105, .ref 106, .ref 107, .ref 108, .ref 109, .ref 110, .int 0, .int 0, .int 0, .int 0, .int 0, .int 0, .int 0, .int (-1), .int 0, .int 0, .int 0, .ref 111, .ref 112, .int 0, .ref 113, .ref 114, .ref 115, .int 0, .int 0, .ref 116, .ref 117, .ref 118, .ref 119, .ref 120, .ref 121, .ref 122, .ref 123, .ref 124, .ref 125, .ref 126, .ref 127, .ref 128, .ref 129, .ref 130, .ref 131, .int 0, .ref 132, .int 0, .ref 133, .int 0, .ref 134, .ref 135, .ref 136, .ref 137, .ref 138, .ref 139, .ref 140, .ref 141, .ref 142, .ref 143, .ref 144, .ref 145, .ref 146, .int 0, .long 0, .int 0, .int 0, .ref 147]))) (hL : mj_L g = 6) : mj_V g l kY_TrustDeskLaw_law (d + 9) 1351 [(4, .int 0), (3, .ref 148), (2, .ref 99), (1, .ref 64), (0, .ref 50)] [] M 149 6 241 (fun r _ _ => r = some (.int 1)) := by
  refine mv_aload_n d_TrustDeskLaw_law_1351 rfl rfl ?_
  refine mv_aload_n d_TrustDeskLaw_law_1352 rfl rfl ?_
  refine mv_iload d_TrustDeskLaw_law_1353 rfl ?_
  refine mv_iconst (v := 1) d_TrustDeskLaw_law_1355 (by decide) ?_
  refine mv_iaddv (v := 1) d_TrustDeskLaw_law_1356 (by decide) ?_
  refine mv_sld (v := (mj_xs g 1)) d_TrustDeskLaw_law_1357 (by rw [hL]; unfold vp_in; decide) rfl ?_
  refine mv_aload_n d_TrustDeskLaw_law_1358 rfl rfl ?_
  refine mv_iload d_TrustDeskLaw_law_1359 rfl ?_
  refine mv_iconst (v := 2) d_TrustDeskLaw_law_1361 (by decide) ?_
  refine mv_iaddv (v := 2) d_TrustDeskLaw_law_1362 (by decide) ?_
  refine mv_sld (v := (mj_xs g 2)) d_TrustDeskLaw_law_1363 (by rw [hL]; unfold vp_in; decide) rfl ?_
  refine mv_callV_s (kc' := 6) (ks' := 241) [.int (mj_xs g 1), .int (mj_xs g 2)] [.int (mj_xs g 2), .int (mj_xs g 1), .ref 64] d_TrustDeskLaw_law_1364 lV_TrustDeskLaw_149 h_64 rfl (c_TrustDesk_grouped_0 (d := (d + 6)) (x1 := (mj_xs g 1)) (x2 := (mj_xs g 2)) (h_64 := h_64) (h_95 := h_95)) rfl (Nat.le_of_ble_eq_true rfl) (Nat.le_of_ble_eq_true rfl) (Nat.le_of_ble_eq_true rfl) rfl ?_
  refine mv_aload_n d_TrustDeskLaw_law_1367 rfl rfl ?_
  refine mv_aload_n d_TrustDeskLaw_law_1368 rfl rfl ?_
  refine mv_iload d_TrustDeskLaw_law_1369 rfl ?_
  refine mv_iconst (v := 1) d_TrustDeskLaw_law_1371 (by decide) ?_
  refine mv_iaddv (v := 1) d_TrustDeskLaw_law_1372 (by decide) ?_
  refine mv_sld (v := (mj_xs g 1)) d_TrustDeskLaw_law_1373 (by rw [hL]; unfold vp_in; decide) rfl ?_
  refine mv_aload_n d_TrustDeskLaw_law_1374 rfl rfl ?_
  refine mv_iload d_TrustDeskLaw_law_1375 rfl ?_
  refine mv_iconst (v := 2) d_TrustDeskLaw_law_1377 (by decide) ?_
  refine mv_iaddv (v := 2) d_TrustDeskLaw_law_1378 (by decide) ?_
  refine mv_sld (v := (mj_xs g 2)) d_TrustDeskLaw_law_1379 (by rw [hL]; unfold vp_in; decide) rfl ?_
  refine mv_callV_s (kc' := 6) (ks' := 241) [.int (mj_xs g 1), .int (mj_xs g 2)] [.int (mj_xs g 2), .int (mj_xs g 1), .ref 99, .int (-1)] d_TrustDeskLaw_law_1380 lV_TrustDeskLaw_152 h_99 rfl (c_TrustDeskModel_grouped_0 (d := (d + 7)) (x1 := (mj_xs g 1)) (x2 := (mj_xs g 2)) (h_99 := h_99)) rfl (Nat.le_of_ble_eq_true rfl) (Nat.le_of_ble_eq_true rfl) (Nat.le_of_ble_eq_true rfl) rfl ?_
  refine mv_icmp_eq_t (tgt := 1513) d_TrustDeskLaw_law_1383 (by decide) (by decide) ?_
  refine mv_iinc (v := 6) (lv' := [(4, .int 6), (3, .ref 148), (2, .ref 99), (1, .ref 64), (0, .ref 50)]) d_TrustDeskLaw_law_1513 rfl (by decide) (by decide) rfl ?_
  refine mv_goto (tgt := 23) d_TrustDeskLaw_law_1516 (by decide) ?_
  refine mv_iload d_TrustDeskLaw_law_23 rfl ?_
  refine mv_aload_n d_TrustDeskLaw_law_25 rfl rfl ?_
  refine mv_slen (v := 6) d_TrustDeskLaw_law_26 (by rw [hL]; rfl) ?_
  refine mv_bipush (v := 6) d_TrustDeskLaw_law_27 (by decide) ?_
  refine mv_isubv (v := 0) d_TrustDeskLaw_law_29 (by decide) ?_
  refine mv_icmp_gt_t (tgt := 1519) d_TrustDeskLaw_law_30 (by decide) (by decide) ?_
  refine mv_iconst (v := 1) d_TrustDeskLaw_law_1519 (by decide) ?_
  exact mv_iret d_TrustDeskLaw_law_1520 rfl (by first | rfl | decide) rfl
theorem d_TrustDeskLaw_law_1388 : decode kY_TrustDeskLaw_law.2.1 1388 = .ok (.aload_n 1, 1) := by decide +kernel
theorem d_TrustDeskLaw_law_1389 : decode kY_TrustDeskLaw_law.2.1 1389 = .ok (.aload_n 0, 1) := by decide +kernel
theorem d_TrustDeskLaw_law_1390 : decode kY_TrustDeskLaw_law.2.1 1390 = .ok (.iload 4, 2) := by decide +kernel
theorem d_TrustDeskLaw_law_1392 : decode kY_TrustDeskLaw_law.2.1 1392 = .ok (.iconst 1, 1) := by decide +kernel
theorem d_TrustDeskLaw_law_1393 : decode kY_TrustDeskLaw_law.2.1 1393 = .ok (.iadd, 1) := by decide +kernel
theorem d_TrustDeskLaw_law_1394 : decode kY_TrustDeskLaw_law.2.1 1394 = .ok (.iaload, 1) := by decide +kernel
theorem d_TrustDeskLaw_law_1395 : decode kY_TrustDeskLaw_law.2.1 1395 = .ok (.aload_n 0, 1) := by decide +kernel
theorem d_TrustDeskLaw_law_1396 : decode kY_TrustDeskLaw_law.2.1 1396 = .ok (.iload 4, 2) := by decide +kernel
theorem d_TrustDeskLaw_law_1398 : decode kY_TrustDeskLaw_law.2.1 1398 = .ok (.iconst 2, 1) := by decide +kernel
theorem d_TrustDeskLaw_law_1399 : decode kY_TrustDeskLaw_law.2.1 1399 = .ok (.iadd, 1) := by decide +kernel
theorem d_TrustDeskLaw_law_1400 : decode kY_TrustDeskLaw_law.2.1 1400 = .ok (.iaload, 1) := by decide +kernel
theorem d_TrustDeskLaw_law_1401 : decode kY_TrustDeskLaw_law.2.1 1401 = .ok (.invokevirtual 153, 3) := by decide +kernel
theorem lV_TrustDeskLaw_153 : mj_lV "TrustDeskLaw" 153 kY_TrustDesk_lay 2 := ⟨⟨(mj_in1 (List.mem_of_getElem? (i := 1273) (by decide +kernel)) rfl), (mj_in1 (List.mem_of_getElem? (i := 1) (by decide +kernel)) rfl), (mj_in1 (List.mem_of_getElem? (i := 1276) (by decide +kernel)) rfl), by decide, rfl, by decide⟩, (mj_in1 (List.mem_of_getElem? (i := 1274) (by decide +kernel)) rfl), (mj_in1 (List.mem_of_getElem? (i := 1275) (by decide +kernel)) rfl)⟩
theorem d_TrustDeskLaw_law_1404 : decode kY_TrustDeskLaw_law.2.1 1404 = .ok (.aload_n 2, 1) := by decide +kernel
theorem d_TrustDeskLaw_law_1405 : decode kY_TrustDeskLaw_law.2.1 1405 = .ok (.aload_n 0, 1) := by decide +kernel
theorem d_TrustDeskLaw_law_1406 : decode kY_TrustDeskLaw_law.2.1 1406 = .ok (.iload 4, 2) := by decide +kernel
theorem d_TrustDeskLaw_law_1408 : decode kY_TrustDeskLaw_law.2.1 1408 = .ok (.iconst 1, 1) := by decide +kernel
theorem d_TrustDeskLaw_law_1409 : decode kY_TrustDeskLaw_law.2.1 1409 = .ok (.iadd, 1) := by decide +kernel
theorem d_TrustDeskLaw_law_1410 : decode kY_TrustDeskLaw_law.2.1 1410 = .ok (.iaload, 1) := by decide +kernel
theorem d_TrustDeskLaw_law_1411 : decode kY_TrustDeskLaw_law.2.1 1411 = .ok (.aload_n 0, 1) := by decide +kernel
theorem d_TrustDeskLaw_law_1412 : decode kY_TrustDeskLaw_law.2.1 1412 = .ok (.iload 4, 2) := by decide +kernel
theorem d_TrustDeskLaw_law_1414 : decode kY_TrustDeskLaw_law.2.1 1414 = .ok (.iconst 2, 1) := by decide +kernel
theorem d_TrustDeskLaw_law_1415 : decode kY_TrustDeskLaw_law.2.1 1415 = .ok (.iadd, 1) := by decide +kernel
theorem d_TrustDeskLaw_law_1416 : decode kY_TrustDeskLaw_law.2.1 1416 = .ok (.iaload, 1) := by decide +kernel
theorem d_TrustDeskLaw_law_1417 : decode kY_TrustDeskLaw_law.2.1 1417 = .ok (.invokevirtual 156, 3) := by decide +kernel
theorem lV_TrustDeskLaw_156 : mj_lV "TrustDeskLaw" 156 kY_TrustDeskModel_lay 2 := ⟨⟨(mj_in1 (List.mem_of_getElem? (i := 2045) (by decide +kernel)) rfl), (mj_in1 (List.mem_of_getElem? (i := 10) (by decide +kernel)) rfl), (mj_in1 (List.mem_of_getElem? (i := 2048) (by decide +kernel)) rfl), by decide, rfl, by decide⟩, (mj_in1 (List.mem_of_getElem? (i := 2046) (by decide +kernel)) rfl), (mj_in1 (List.mem_of_getElem? (i := 2047) (by decide +kernel)) rfl)⟩
theorem d_TrustDeskLaw_law_1420 : decode kY_TrustDeskLaw_law.2.1 1420 = .ok (.if_icmp .eq 93, 3) := by decide +kernel
theorem lw_case_30 {g : mj_G} {l : Launch} {d nx : Nat} {M : mj_M} (h_64 : M 64 = some (.inr (12, [.ref 65, .ref 70, .ref 77, .ref 80, .ref 90, .ref 94, .ref 95, .ref 96, .ref 97, .ref 98, .int 0, .int 0, .int 0]))) (h_95 : M 95 = some (.inr (0, [.int 0, .ref 0, .int 0]))) (h_99 : M 99 = some (.inr (13, [.int 0, .int 0, .int 0, .ref 100, .ref 101, .ref 102, .ref 103, .ref 104, .ref 105, .ref 106, .ref 107, .ref 108, .ref 109, .ref 110, .int 0, .int 0, .int 0, .int 0, .int 0, .int 0, .int 0, .int (-1), .int 0, .int 0, .int 0, .ref 111, .ref 112, .int 0, .ref 113, .ref 114, .ref 115, .int 0, .int 0, .ref 116, .ref 117, .ref 118, .ref 119, .ref 120, .ref 121, .ref 122, .ref 123, .ref 124, .ref 125, .ref 126, .ref 127, .ref 128, .ref 129, .ref 130, .ref 131, .int 0, .ref 132, .int 0, .ref 133, .int 0, .ref 134, .ref 135, .ref 136, .ref 137, .ref 138, .ref 139, .ref 140, .ref 141, .ref 142, .ref 143, .ref 144, .ref 145, .ref 146, .int 0, .long 0, .int 0, .int 0, .ref 147]))) (hL : mj_L g = 6) : mj_V g l kY_TrustDeskLaw_law (d + 9) 1388 [(4, .int 0), (3, .ref 148), (2, .ref 99), (1, .ref 64), (0, .ref 50)] [] M 149 6 241 (fun r _ _ => r = some (.int 1)) := by
  refine mv_aload_n d_TrustDeskLaw_law_1388 rfl rfl ?_
  refine mv_aload_n d_TrustDeskLaw_law_1389 rfl rfl ?_
  refine mv_iload d_TrustDeskLaw_law_1390 rfl ?_
  refine mv_iconst (v := 1) d_TrustDeskLaw_law_1392 (by decide) ?_
  refine mv_iaddv (v := 1) d_TrustDeskLaw_law_1393 (by decide) ?_
  refine mv_sld (v := (mj_xs g 1)) d_TrustDeskLaw_law_1394 (by rw [hL]; unfold vp_in; decide) rfl ?_
  refine mv_aload_n d_TrustDeskLaw_law_1395 rfl rfl ?_
  refine mv_iload d_TrustDeskLaw_law_1396 rfl ?_
  refine mv_iconst (v := 2) d_TrustDeskLaw_law_1398 (by decide) ?_
  refine mv_iaddv (v := 2) d_TrustDeskLaw_law_1399 (by decide) ?_
  refine mv_sld (v := (mj_xs g 2)) d_TrustDeskLaw_law_1400 (by rw [hL]; unfold vp_in; decide) rfl ?_
  refine mv_callV_s (kc' := 6) (ks' := 241) [.int (mj_xs g 1), .int (mj_xs g 2)] [.int (mj_xs g 2), .int (mj_xs g 1), .ref 64] d_TrustDeskLaw_law_1401 lV_TrustDeskLaw_153 h_64 rfl (c_TrustDesk_lay_0 (d := (d + 6)) (x1 := (mj_xs g 1)) (x2 := (mj_xs g 2)) (h_64 := h_64) (h_95 := h_95)) rfl (Nat.le_of_ble_eq_true rfl) (Nat.le_of_ble_eq_true rfl) (Nat.le_of_ble_eq_true rfl) rfl ?_
  refine mv_aload_n d_TrustDeskLaw_law_1404 rfl rfl ?_
  refine mv_aload_n d_TrustDeskLaw_law_1405 rfl rfl ?_
  refine mv_iload d_TrustDeskLaw_law_1406 rfl ?_
  refine mv_iconst (v := 1) d_TrustDeskLaw_law_1408 (by decide) ?_
  refine mv_iaddv (v := 1) d_TrustDeskLaw_law_1409 (by decide) ?_
  refine mv_sld (v := (mj_xs g 1)) d_TrustDeskLaw_law_1410 (by rw [hL]; unfold vp_in; decide) rfl ?_
  refine mv_aload_n d_TrustDeskLaw_law_1411 rfl rfl ?_
  refine mv_iload d_TrustDeskLaw_law_1412 rfl ?_
  refine mv_iconst (v := 2) d_TrustDeskLaw_law_1414 (by decide) ?_
  refine mv_iaddv (v := 2) d_TrustDeskLaw_law_1415 (by decide) ?_
  refine mv_sld (v := (mj_xs g 2)) d_TrustDeskLaw_law_1416 (by rw [hL]; unfold vp_in; decide) rfl ?_
  refine mv_callV_s (kc' := 6) (ks' := 241) [.int (mj_xs g 1), .int (mj_xs g 2)] [.int (mj_xs g 2), .int (mj_xs g 1), .ref 99, .int 0] d_TrustDeskLaw_law_1417 lV_TrustDeskLaw_156 h_99 rfl (c_TrustDeskModel_lay_0 (d := (d + 7)) (x1 := (mj_xs g 1)) (x2 := (mj_xs g 2)) (h_99 := h_99)) rfl (Nat.le_of_ble_eq_true rfl) (Nat.le_of_ble_eq_true rfl) (Nat.le_of_ble_eq_true rfl) rfl ?_
  refine mv_icmp_eq_t (tgt := 1513) d_TrustDeskLaw_law_1420 (by decide) (by decide) ?_
  refine mv_iinc (v := 6) (lv' := [(4, .int 6), (3, .ref 148), (2, .ref 99), (1, .ref 64), (0, .ref 50)]) d_TrustDeskLaw_law_1513 rfl (by decide) (by decide) rfl ?_
  refine mv_goto (tgt := 23) d_TrustDeskLaw_law_1516 (by decide) ?_
  refine mv_iload d_TrustDeskLaw_law_23 rfl ?_
  refine mv_aload_n d_TrustDeskLaw_law_25 rfl rfl ?_
  refine mv_slen (v := 6) d_TrustDeskLaw_law_26 (by rw [hL]; rfl) ?_
  refine mv_bipush (v := 6) d_TrustDeskLaw_law_27 (by decide) ?_
  refine mv_isubv (v := 0) d_TrustDeskLaw_law_29 (by decide) ?_
  refine mv_icmp_gt_t (tgt := 1519) d_TrustDeskLaw_law_30 (by decide) (by decide) ?_
  refine mv_iconst (v := 1) d_TrustDeskLaw_law_1519 (by decide) ?_
  exact mv_iret d_TrustDeskLaw_law_1520 rfl (by first | rfl | decide) rfl
theorem d_TrustDeskLaw_law_1425 : decode kY_TrustDeskLaw_law.2.1 1425 = .ok (.aload_n 1, 1) := by decide +kernel
theorem d_TrustDeskLaw_law_1426 : decode kY_TrustDeskLaw_law.2.1 1426 = .ok (.aload_n 0, 1) := by decide +kernel
theorem d_TrustDeskLaw_law_1427 : decode kY_TrustDeskLaw_law.2.1 1427 = .ok (.iload 4, 2) := by decide +kernel
theorem d_TrustDeskLaw_law_1429 : decode kY_TrustDeskLaw_law.2.1 1429 = .ok (.iconst 1, 1) := by decide +kernel
theorem d_TrustDeskLaw_law_1430 : decode kY_TrustDeskLaw_law.2.1 1430 = .ok (.iadd, 1) := by decide +kernel
theorem d_TrustDeskLaw_law_1431 : decode kY_TrustDeskLaw_law.2.1 1431 = .ok (.iaload, 1) := by decide +kernel
theorem d_TrustDeskLaw_law_1432 : decode kY_TrustDeskLaw_law.2.1 1432 = .ok (.invokevirtual 157, 3) := by decide +kernel
theorem lV_TrustDeskLaw_157 : mj_lV "TrustDeskLaw" 157 kY_TrustDesk_judge 1 := ⟨⟨(mj_in1 (List.mem_of_getElem? (i := 1277) (by decide +kernel)) rfl), (mj_in1 (List.mem_of_getElem? (i := 1) (by decide +kernel)) rfl), (mj_in1 (List.mem_of_getElem? (i := 1280) (by decide +kernel)) rfl), by decide, rfl, by decide⟩, (mj_in1 (List.mem_of_getElem? (i := 1278) (by decide +kernel)) rfl), (mj_in1 (List.mem_of_getElem? (i := 1279) (by decide +kernel)) rfl)⟩
theorem d_TrustDeskLaw_law_1435 : decode kY_TrustDeskLaw_law.2.1 1435 = .ok (.aload_n 2, 1) := by decide +kernel
theorem d_TrustDeskLaw_law_1436 : decode kY_TrustDeskLaw_law.2.1 1436 = .ok (.aload_n 0, 1) := by decide +kernel
theorem d_TrustDeskLaw_law_1437 : decode kY_TrustDeskLaw_law.2.1 1437 = .ok (.iload 4, 2) := by decide +kernel
theorem d_TrustDeskLaw_law_1439 : decode kY_TrustDeskLaw_law.2.1 1439 = .ok (.iconst 1, 1) := by decide +kernel
theorem d_TrustDeskLaw_law_1440 : decode kY_TrustDeskLaw_law.2.1 1440 = .ok (.iadd, 1) := by decide +kernel
theorem d_TrustDeskLaw_law_1441 : decode kY_TrustDeskLaw_law.2.1 1441 = .ok (.iaload, 1) := by decide +kernel
theorem d_TrustDeskLaw_law_1442 : decode kY_TrustDeskLaw_law.2.1 1442 = .ok (.invokevirtual 160, 3) := by decide +kernel
theorem lV_TrustDeskLaw_160 : mj_lV "TrustDeskLaw" 160 kY_TrustDeskModel_judge 1 := ⟨⟨(mj_in1 (List.mem_of_getElem? (i := 2049) (by decide +kernel)) rfl), (mj_in1 (List.mem_of_getElem? (i := 10) (by decide +kernel)) rfl), (mj_in1 (List.mem_of_getElem? (i := 2052) (by decide +kernel)) rfl), by decide, rfl, by decide⟩, (mj_in1 (List.mem_of_getElem? (i := 2050) (by decide +kernel)) rfl), (mj_in1 (List.mem_of_getElem? (i := 2051) (by decide +kernel)) rfl)⟩
theorem d_TrustDeskLaw_law_1445 : decode kY_TrustDeskLaw_law.2.1 1445 = .ok (.lcmp, 1) := by decide +kernel
theorem d_TrustDeskLaw_law_1446 : decode kY_TrustDeskLaw_law.2.1 1446 = .ok (.ifCond .eq 67, 3) := by decide +kernel
theorem lw_case_31 {g : mj_G} {l : Launch} {d nx : Nat} {M : mj_M} (h_64 : M 64 = some (.inr (12, [.ref 65, .ref 70, .ref 77, .ref 80, .ref 90, .ref 94, .ref 95, .ref 96, .ref 97, .ref 98, .int 0, .int 0, .int 0]))) (h_95 : M 95 = some (.inr (0, [.int 0, .ref 0, .int 0]))) (h_99 : M 99 = some (.inr (13, [.int 0, .int 0, .int 0, .ref 100, .ref 101, .ref 102, .ref 103, .ref 104, .ref 105, .ref 106, .ref 107, .ref 108, .ref 109, .ref 110, .int 0, .int 0, .int 0, .int 0, .int 0, .int 0, .int 0, .int (-1), .int 0, .int 0, .int 0, .ref 111, .ref 112, .int 0, .ref 113, .ref 114, .ref 115, .int 0, .int 0, .ref 116, .ref 117, .ref 118, .ref 119, .ref 120, .ref 121, .ref 122, .ref 123, .ref 124, .ref 125, .ref 126, .ref 127, .ref 128, .ref 129, .ref 130, .ref 131, .int 0, .ref 132, .int 0, .ref 133, .int 0, .ref 134, .ref 135, .ref 136, .ref 137, .ref 138, .ref 139, .ref 140, .ref 141, .ref 142, .ref 143, .ref 144, .ref 145, .ref 146, .int 0, .long 0, .int 0, .int 0, .ref 147]))) (hL : mj_L g = 6) : mj_V g l kY_TrustDeskLaw_law (d + 9) 1425 [(4, .int 0), (3, .ref 148), (2, .ref 99), (1, .ref 64), (0, .ref 50)] [] M 149 6 241 (fun r _ _ => r = some (.int 1)) := by
  refine mv_aload_n d_TrustDeskLaw_law_1425 rfl rfl ?_
  refine mv_aload_n d_TrustDeskLaw_law_1426 rfl rfl ?_
  refine mv_iload d_TrustDeskLaw_law_1427 rfl ?_
  refine mv_iconst (v := 1) d_TrustDeskLaw_law_1429 (by decide) ?_
  refine mv_iaddv (v := 1) d_TrustDeskLaw_law_1430 (by decide) ?_
  refine mv_sld (v := (mj_xs g 1)) d_TrustDeskLaw_law_1431 (by rw [hL]; unfold vp_in; decide) rfl ?_
  refine mv_callV_s (kc' := 6) (ks' := 241) [.int (mj_xs g 1)] [.int (mj_xs g 1), .ref 64] d_TrustDeskLaw_law_1432 lV_TrustDeskLaw_157 h_64 rfl (c_TrustDesk_judge_0 (d := (d + 5)) (x1 := (mj_xs g 1)) (h_64 := h_64) (h_95 := h_95)) rfl (Nat.le_of_ble_eq_true rfl) (Nat.le_of_ble_eq_true rfl) (Nat.le_of_ble_eq_true rfl) rfl ?_
  refine mv_aload_n d_TrustDeskLaw_law_1435 rfl rfl ?_
  refine mv_aload_n d_TrustDeskLaw_law_1436 rfl rfl ?_
  refine mv_iload d_TrustDeskLaw_law_1437 rfl ?_
  refine mv_iconst (v := 1) d_TrustDeskLaw_law_1439 (by decide) ?_
  refine mv_iaddv (v := 1) d_TrustDeskLaw_law_1440 (by decide) ?_
  refine mv_sld (v := (mj_xs g 1)) d_TrustDeskLaw_law_1441 (by rw [hL]; unfold vp_in; decide) rfl ?_
  refine mv_callV_s (kc' := 6) (ks' := 241) [.int (mj_xs g 1)] [.int (mj_xs g 1), .ref 99, .long (-1)] d_TrustDeskLaw_law_1442 lV_TrustDeskLaw_160 h_99 rfl (c_TrustDeskModel_judge_0 (d := (d + 5)) (x1 := (mj_xs g 1)) (h_99 := h_99)) rfl (Nat.le_of_ble_eq_true rfl) (Nat.le_of_ble_eq_true rfl) (Nat.le_of_ble_eq_true rfl) rfl ?_
  refine mv_leq_t (tgt := 1513) d_TrustDeskLaw_law_1445 d_TrustDeskLaw_law_1446 (by decide) ?_
  refine mv_iinc (v := 6) (lv' := [(4, .int 6), (3, .ref 148), (2, .ref 99), (1, .ref 64), (0, .ref 50)]) d_TrustDeskLaw_law_1513 rfl (by decide) (by decide) rfl ?_
  refine mv_goto (tgt := 23) d_TrustDeskLaw_law_1516 (by decide) ?_
  refine mv_iload d_TrustDeskLaw_law_23 rfl ?_
  refine mv_aload_n d_TrustDeskLaw_law_25 rfl rfl ?_
  refine mv_slen (v := 6) d_TrustDeskLaw_law_26 (by rw [hL]; rfl) ?_
  refine mv_bipush (v := 6) d_TrustDeskLaw_law_27 (by decide) ?_
  refine mv_isubv (v := 0) d_TrustDeskLaw_law_29 (by decide) ?_
  refine mv_icmp_gt_t (tgt := 1519) d_TrustDeskLaw_law_30 (by decide) (by decide) ?_
  refine mv_iconst (v := 1) d_TrustDeskLaw_law_1519 (by decide) ?_
  exact mv_iret d_TrustDeskLaw_law_1520 rfl (by first | rfl | decide) rfl
theorem d_TrustDeskLaw_law_1451 : decode kY_TrustDeskLaw_law.2.1 1451 = .ok (.aload_n 1, 1) := by decide +kernel
theorem d_TrustDeskLaw_law_1452 : decode kY_TrustDeskLaw_law.2.1 1452 = .ok (.aload_n 0, 1) := by decide +kernel
theorem d_TrustDeskLaw_law_1453 : decode kY_TrustDeskLaw_law.2.1 1453 = .ok (.iload 4, 2) := by decide +kernel
theorem d_TrustDeskLaw_law_1455 : decode kY_TrustDeskLaw_law.2.1 1455 = .ok (.iconst 1, 1) := by decide +kernel
theorem d_TrustDeskLaw_law_1456 : decode kY_TrustDeskLaw_law.2.1 1456 = .ok (.iadd, 1) := by decide +kernel
theorem d_TrustDeskLaw_law_1457 : decode kY_TrustDeskLaw_law.2.1 1457 = .ok (.iaload, 1) := by decide +kernel
theorem d_TrustDeskLaw_law_1458 : decode kY_TrustDeskLaw_law.2.1 1458 = .ok (.aload_n 0, 1) := by decide +kernel
theorem d_TrustDeskLaw_law_1459 : decode kY_TrustDeskLaw_law.2.1 1459 = .ok (.iload 4, 2) := by decide +kernel
theorem d_TrustDeskLaw_law_1461 : decode kY_TrustDeskLaw_law.2.1 1461 = .ok (.iconst 2, 1) := by decide +kernel
theorem d_TrustDeskLaw_law_1462 : decode kY_TrustDeskLaw_law.2.1 1462 = .ok (.iadd, 1) := by decide +kernel
theorem d_TrustDeskLaw_law_1463 : decode kY_TrustDeskLaw_law.2.1 1463 = .ok (.iaload, 1) := by decide +kernel
theorem d_TrustDeskLaw_law_1464 : decode kY_TrustDeskLaw_law.2.1 1464 = .ok (.invokevirtual 161, 3) := by decide +kernel
theorem lV_TrustDeskLaw_161 : mj_lV "TrustDeskLaw" 161 kY_TrustDesk_account 2 := ⟨⟨(mj_in1 (List.mem_of_getElem? (i := 1286) (by decide +kernel)) rfl), (mj_in1 (List.mem_of_getElem? (i := 1) (by decide +kernel)) rfl), (mj_in1 (List.mem_of_getElem? (i := 1289) (by decide +kernel)) rfl), by decide, rfl, by decide⟩, (mj_in1 (List.mem_of_getElem? (i := 1287) (by decide +kernel)) rfl), (mj_in1 (List.mem_of_getElem? (i := 1288) (by decide +kernel)) rfl)⟩
theorem d_TrustDeskLaw_law_1467 : decode kY_TrustDeskLaw_law.2.1 1467 = .ok (.aload_n 2, 1) := by decide +kernel
theorem d_TrustDeskLaw_law_1468 : decode kY_TrustDeskLaw_law.2.1 1468 = .ok (.aload_n 0, 1) := by decide +kernel
theorem d_TrustDeskLaw_law_1469 : decode kY_TrustDeskLaw_law.2.1 1469 = .ok (.iload 4, 2) := by decide +kernel
theorem d_TrustDeskLaw_law_1471 : decode kY_TrustDeskLaw_law.2.1 1471 = .ok (.iconst 1, 1) := by decide +kernel
theorem d_TrustDeskLaw_law_1472 : decode kY_TrustDeskLaw_law.2.1 1472 = .ok (.iadd, 1) := by decide +kernel
theorem d_TrustDeskLaw_law_1473 : decode kY_TrustDeskLaw_law.2.1 1473 = .ok (.iaload, 1) := by decide +kernel
theorem d_TrustDeskLaw_law_1474 : decode kY_TrustDeskLaw_law.2.1 1474 = .ok (.aload_n 0, 1) := by decide +kernel
theorem d_TrustDeskLaw_law_1475 : decode kY_TrustDeskLaw_law.2.1 1475 = .ok (.iload 4, 2) := by decide +kernel
theorem d_TrustDeskLaw_law_1477 : decode kY_TrustDeskLaw_law.2.1 1477 = .ok (.iconst 2, 1) := by decide +kernel
theorem d_TrustDeskLaw_law_1478 : decode kY_TrustDeskLaw_law.2.1 1478 = .ok (.iadd, 1) := by decide +kernel
theorem d_TrustDeskLaw_law_1479 : decode kY_TrustDeskLaw_law.2.1 1479 = .ok (.iaload, 1) := by decide +kernel
theorem d_TrustDeskLaw_law_1480 : decode kY_TrustDeskLaw_law.2.1 1480 = .ok (.invokevirtual 164, 3) := by decide +kernel
theorem lV_TrustDeskLaw_164 : mj_lV "TrustDeskLaw" 164 kY_TrustDeskModel_account 2 := ⟨⟨(mj_in1 (List.mem_of_getElem? (i := 2053) (by decide +kernel)) rfl), (mj_in1 (List.mem_of_getElem? (i := 10) (by decide +kernel)) rfl), (mj_in1 (List.mem_of_getElem? (i := 2056) (by decide +kernel)) rfl), by decide, rfl, by decide⟩, (mj_in1 (List.mem_of_getElem? (i := 2054) (by decide +kernel)) rfl), (mj_in1 (List.mem_of_getElem? (i := 2055) (by decide +kernel)) rfl)⟩
theorem d_TrustDeskLaw_law_1483 : decode kY_TrustDeskLaw_law.2.1 1483 = .ok (.if_icmp .eq 30, 3) := by decide +kernel
theorem lw_case_32 {g : mj_G} {l : Launch} {d nx : Nat} {M : mj_M} (h_64 : M 64 = some (.inr (12, [.ref 65, .ref 70, .ref 77, .ref 80, .ref 90, .ref 94, .ref 95, .ref 96, .ref 97, .ref 98, .int 0, .int 0, .int 0]))) (h_95 : M 95 = some (.inr (0, [.int 0, .ref 0, .int 0]))) (h_99 : M 99 = some (.inr (13, [.int 0, .int 0, .int 0, .ref 100, .ref 101, .ref 102, .ref 103, .ref 104, .ref 105, .ref 106, .ref 107, .ref 108, .ref 109, .ref 110, .int 0, .int 0, .int 0, .int 0, .int 0, .int 0, .int 0, .int (-1), .int 0, .int 0, .int 0, .ref 111, .ref 112, .int 0, .ref 113, .ref 114, .ref 115, .int 0, .int 0, .ref 116, .ref 117, .ref 118, .ref 119, .ref 120, .ref 121, .ref 122, .ref 123, .ref 124, .ref 125, .ref 126, .ref 127, .ref 128, .ref 129, .ref 130, .ref 131, .int 0, .ref 132, .int 0, .ref 133, .int 0, .ref 134, .ref 135, .ref 136, .ref 137, .ref 138, .ref 139, .ref 140, .ref 141, .ref 142, .ref 143, .ref 144, .ref 145, .ref 146, .int 0, .long 0, .int 0, .int 0, .ref 147]))) (hL : mj_L g = 6) : mj_V g l kY_TrustDeskLaw_law (d + 9) 1451 [(4, .int 0), (3, .ref 148), (2, .ref 99), (1, .ref 64), (0, .ref 50)] [] M 149 6 241 (fun r _ _ => r = some (.int 1)) := by
  refine mv_aload_n d_TrustDeskLaw_law_1451 rfl rfl ?_
  refine mv_aload_n d_TrustDeskLaw_law_1452 rfl rfl ?_
  refine mv_iload d_TrustDeskLaw_law_1453 rfl ?_
  refine mv_iconst (v := 1) d_TrustDeskLaw_law_1455 (by decide) ?_
  refine mv_iaddv (v := 1) d_TrustDeskLaw_law_1456 (by decide) ?_
  refine mv_sld (v := (mj_xs g 1)) d_TrustDeskLaw_law_1457 (by rw [hL]; unfold vp_in; decide) rfl ?_
  refine mv_aload_n d_TrustDeskLaw_law_1458 rfl rfl ?_
  refine mv_iload d_TrustDeskLaw_law_1459 rfl ?_
  refine mv_iconst (v := 2) d_TrustDeskLaw_law_1461 (by decide) ?_
  refine mv_iaddv (v := 2) d_TrustDeskLaw_law_1462 (by decide) ?_
  refine mv_sld (v := (mj_xs g 2)) d_TrustDeskLaw_law_1463 (by rw [hL]; unfold vp_in; decide) rfl ?_
  refine mv_callV_s (kc' := 6) (ks' := 241) [.int (mj_xs g 1), .int (mj_xs g 2)] [.int (mj_xs g 2), .int (mj_xs g 1), .ref 64] d_TrustDeskLaw_law_1464 lV_TrustDeskLaw_161 h_64 rfl (c_TrustDesk_account_0 (d := (d + 6)) (x1 := (mj_xs g 1)) (x2 := (mj_xs g 2)) (h_64 := h_64) (h_95 := h_95)) rfl (Nat.le_of_ble_eq_true rfl) (Nat.le_of_ble_eq_true rfl) (Nat.le_of_ble_eq_true rfl) rfl ?_
  refine mv_aload_n d_TrustDeskLaw_law_1467 rfl rfl ?_
  refine mv_aload_n d_TrustDeskLaw_law_1468 rfl rfl ?_
  refine mv_iload d_TrustDeskLaw_law_1469 rfl ?_
  refine mv_iconst (v := 1) d_TrustDeskLaw_law_1471 (by decide) ?_
  refine mv_iaddv (v := 1) d_TrustDeskLaw_law_1472 (by decide) ?_
  refine mv_sld (v := (mj_xs g 1)) d_TrustDeskLaw_law_1473 (by rw [hL]; unfold vp_in; decide) rfl ?_
  refine mv_aload_n d_TrustDeskLaw_law_1474 rfl rfl ?_
  refine mv_iload d_TrustDeskLaw_law_1475 rfl ?_
  refine mv_iconst (v := 2) d_TrustDeskLaw_law_1477 (by decide) ?_
  refine mv_iaddv (v := 2) d_TrustDeskLaw_law_1478 (by decide) ?_
  refine mv_sld (v := (mj_xs g 2)) d_TrustDeskLaw_law_1479 (by rw [hL]; unfold vp_in; decide) rfl ?_
  refine mv_callV_s (kc' := 6) (ks' := 241) [.int (mj_xs g 1), .int (mj_xs g 2)] [.int (mj_xs g 2), .int (mj_xs g 1), .ref 99, .int (-1)] d_TrustDeskLaw_law_1480 lV_TrustDeskLaw_164 h_99 rfl (c_TrustDeskModel_account_0 (d := (d + 7)) (x1 := (mj_xs g 1)) (x2 := (mj_xs g 2)) (h_99 := h_99)) rfl (Nat.le_of_ble_eq_true rfl) (Nat.le_of_ble_eq_true rfl) (Nat.le_of_ble_eq_true rfl) rfl ?_
  refine mv_icmp_eq_t (tgt := 1513) d_TrustDeskLaw_law_1483 (by decide) (by decide) ?_
  refine mv_iinc (v := 6) (lv' := [(4, .int 6), (3, .ref 148), (2, .ref 99), (1, .ref 64), (0, .ref 50)]) d_TrustDeskLaw_law_1513 rfl (by decide) (by decide) rfl ?_
  refine mv_goto (tgt := 23) d_TrustDeskLaw_law_1516 (by decide) ?_
  refine mv_iload d_TrustDeskLaw_law_23 rfl ?_
  refine mv_aload_n d_TrustDeskLaw_law_25 rfl rfl ?_
  refine mv_slen (v := 6) d_TrustDeskLaw_law_26 (by rw [hL]; rfl) ?_
  refine mv_bipush (v := 6) d_TrustDeskLaw_law_27 (by decide) ?_
  refine mv_isubv (v := 0) d_TrustDeskLaw_law_29 (by decide) ?_
  refine mv_icmp_gt_t (tgt := 1519) d_TrustDeskLaw_law_30 (by decide) (by decide) ?_
  refine mv_iconst (v := 1) d_TrustDeskLaw_law_1519 (by decide) ?_
  exact mv_iret d_TrustDeskLaw_law_1520 rfl (by first | rfl | decide) rfl
theorem d_TrustDeskLaw_law_1488 : decode kY_TrustDeskLaw_law.2.1 1488 = .ok (.aload_n 1, 1) := by decide +kernel
theorem d_TrustDeskLaw_law_1489 : decode kY_TrustDeskLaw_law.2.1 1489 = .ok (.aload_n 0, 1) := by decide +kernel
theorem d_TrustDeskLaw_law_1490 : decode kY_TrustDeskLaw_law.2.1 1490 = .ok (.iload 4, 2) := by decide +kernel
theorem d_TrustDeskLaw_law_1492 : decode kY_TrustDeskLaw_law.2.1 1492 = .ok (.iconst 1, 1) := by decide +kernel
theorem d_TrustDeskLaw_law_1493 : decode kY_TrustDeskLaw_law.2.1 1493 = .ok (.iadd, 1) := by decide +kernel
theorem d_TrustDeskLaw_law_1494 : decode kY_TrustDeskLaw_law.2.1 1494 = .ok (.iaload, 1) := by decide +kernel
theorem d_TrustDeskLaw_law_1495 : decode kY_TrustDeskLaw_law.2.1 1495 = .ok (.invokevirtual 165, 3) := by decide +kernel
theorem lV_TrustDeskLaw_165 : mj_lV "TrustDeskLaw" 165 kY_TrustDesk_count 1 := ⟨⟨(mj_in1 (List.mem_of_getElem? (i := 1294) (by decide +kernel)) rfl), (mj_in1 (List.mem_of_getElem? (i := 1) (by decide +kernel)) rfl), (mj_in1 (List.mem_of_getElem? (i := 1297) (by decide +kernel)) rfl), by decide, rfl, by decide⟩, (mj_in1 (List.mem_of_getElem? (i := 1295) (by decide +kernel)) rfl), (mj_in1 (List.mem_of_getElem? (i := 1296) (by decide +kernel)) rfl)⟩
theorem d_TrustDeskLaw_law_1498 : decode kY_TrustDeskLaw_law.2.1 1498 = .ok (.aload_n 2, 1) := by decide +kernel
theorem d_TrustDeskLaw_law_1499 : decode kY_TrustDeskLaw_law.2.1 1499 = .ok (.aload_n 0, 1) := by decide +kernel
theorem d_TrustDeskLaw_law_1500 : decode kY_TrustDeskLaw_law.2.1 1500 = .ok (.iload 4, 2) := by decide +kernel
theorem d_TrustDeskLaw_law_1502 : decode kY_TrustDeskLaw_law.2.1 1502 = .ok (.iconst 1, 1) := by decide +kernel
theorem d_TrustDeskLaw_law_1503 : decode kY_TrustDeskLaw_law.2.1 1503 = .ok (.iadd, 1) := by decide +kernel
theorem d_TrustDeskLaw_law_1504 : decode kY_TrustDeskLaw_law.2.1 1504 = .ok (.iaload, 1) := by decide +kernel
theorem d_TrustDeskLaw_law_1505 : decode kY_TrustDeskLaw_law.2.1 1505 = .ok (.invokevirtual 168, 3) := by decide +kernel
theorem lV_TrustDeskLaw_168 : mj_lV "TrustDeskLaw" 168 kY_TrustDeskModel_count 1 := ⟨⟨(mj_in1 (List.mem_of_getElem? (i := 2086) (by decide +kernel)) rfl), (mj_in1 (List.mem_of_getElem? (i := 10) (by decide +kernel)) rfl), (mj_in1 (List.mem_of_getElem? (i := 2089) (by decide +kernel)) rfl), by decide, rfl, by decide⟩, (mj_in1 (List.mem_of_getElem? (i := 2087) (by decide +kernel)) rfl), (mj_in1 (List.mem_of_getElem? (i := 2088) (by decide +kernel)) rfl)⟩
theorem d_TrustDeskLaw_law_1508 : decode kY_TrustDeskLaw_law.2.1 1508 = .ok (.if_icmp .eq 5, 3) := by decide +kernel
theorem lw_case_33 {g : mj_G} {l : Launch} {d nx : Nat} {M : mj_M} (h_64 : M 64 = some (.inr (12, [.ref 65, .ref 70, .ref 77, .ref 80, .ref 90, .ref 94, .ref 95, .ref 96, .ref 97, .ref 98, .int 0, .int 0, .int 0]))) (h_65 : M 65 = some (.inr (5, [.ref 66, .ref 67, .ref 68, .ref 69, .int 0]))) (h_70 : M 70 = some (.inr (9, [.int 0, .int 0, .int (-1), .ref 71, .ref 72, .ref 73, .ref 74, .ref 75, .int 0, .int 0, .int 0, .int 0, .int 0, .int 0, .int 0, .int 0, .int 0, .ref 76, .int 0]))) (h_94 : M 94 = some (.inr (0, [.int 0, .ref 0, .int 0]))) (h_95 : M 95 = some (.inr (0, [.int 0, .ref 0, .int 0]))) (h_96 : M 96 = some (.inr (0, [.int 0, .ref 0, .int 0]))) (h_97 : M 97 = some (.inr (0, [.int 0, .ref 0, .int 0]))) (h_99 : M 99 = some (.inr (13, [.int 0, .int 0, .int 0, .ref 100, .ref 101, .ref 102, .ref 103, .ref 104, .ref 105, .ref 106, .ref 107, .ref 108, .ref 109, .ref 110, .int 0, .int 0, .int 0, .int 0, .int 0, .int 0, .int 0, .int (-1), .int 0, .int 0, .int 0, .ref 111, .ref 112, .int 0, .ref 113, .ref 114, .ref 115, .int 0, .int 0, .ref 116, .ref 117, .ref 118, .ref 119, .ref 120, .ref 121, .ref 122, .ref 123, .ref 124, .ref 125, .ref 126, .ref 127, .ref 128, .ref 129, .ref 130, .ref 131, .int 0, .ref 132, .int 0, .ref 133, .int 0, .ref 134, .ref 135, .ref 136, .ref 137, .ref 138, .ref 139, .ref 140, .ref 141, .ref 142, .ref 143, .ref 144, .ref 145, .ref 146, .int 0, .long 0, .int 0, .int 0, .ref 147]))) (hL : mj_L g = 6) : mj_V g l kY_TrustDeskLaw_law (d + 9) 1488 [(4, .int 0), (3, .ref 148), (2, .ref 99), (1, .ref 64), (0, .ref 50)] [] M 149 6 241 (fun r _ _ => r = some (.int 1)) := by
  refine mv_aload_n d_TrustDeskLaw_law_1488 rfl rfl ?_
  refine mv_aload_n d_TrustDeskLaw_law_1489 rfl rfl ?_
  refine mv_iload d_TrustDeskLaw_law_1490 rfl ?_
  refine mv_iconst (v := 1) d_TrustDeskLaw_law_1492 (by decide) ?_
  refine mv_iaddv (v := 1) d_TrustDeskLaw_law_1493 (by decide) ?_
  refine mv_sld (v := (mj_xs g 1)) d_TrustDeskLaw_law_1494 (by rw [hL]; unfold vp_in; decide) rfl ?_
  refine mv_callV (kc' := 6) (ks' := 241) (As := [.int (mj_xs g 1)]) (st9 := [.int (mj_xs g 1), .ref 64]) d_TrustDeskLaw_law_1495 lV_TrustDeskLaw_165 h_64 rfl (c_TrustDesk_count_0 (d := (d + 6)) (x1 := (mj_xs g 1)) (h_64 := h_64) (h_65 := h_65) (h_70 := h_70) (h_94 := h_94) (h_95 := h_95) (h_96 := h_96) (h_97 := h_97)) rfl (Nat.le_of_ble_eq_true rfl) (Nat.le_of_ble_eq_true rfl) (Nat.le_of_ble_eq_true rfl) (hst := rfl) (fun b1r b1M b1n b1 => ?_)
  obtain ⟨rfl, b1⟩ := b1
  refine mv_aload_n d_TrustDeskLaw_law_1498 rfl rfl ?_
  refine mv_aload_n d_TrustDeskLaw_law_1499 rfl rfl ?_
  refine mv_iload d_TrustDeskLaw_law_1500 rfl ?_
  refine mv_iconst (v := 1) d_TrustDeskLaw_law_1502 (by decide) ?_
  refine mv_iaddv (v := 1) d_TrustDeskLaw_law_1503 (by decide) ?_
  refine mv_sld (v := (mj_xs g 1)) d_TrustDeskLaw_law_1504 (by rw [hL]; unfold vp_in; decide) rfl ?_
  refine mv_callV (kc' := 6) (ks' := 241) (As := [.int (mj_xs g 1)]) (st9 := [.int (mj_xs g 1), .ref 99, .int (e_count (mj_xs g 1))]) d_TrustDeskLaw_law_1505 lV_TrustDeskLaw_168 ((b1 99 (by decide) (by decide)).trans h_99) rfl (c_TrustDeskModel_count_0 (d := (d + 7)) (x1 := (mj_xs g 1)) (h_99 := ((b1 99 (by decide) (by decide)).trans h_99))) rfl (Nat.le_of_ble_eq_true rfl) (Nat.le_of_ble_eq_true rfl) (Nat.le_of_ble_eq_true rfl) (hst := rfl) (fun b2r b2M b2n b2 => ?_)
  obtain ⟨rfl, b2⟩ := b2
  refine mv_icmp_eq_t (tgt := 1513) d_TrustDeskLaw_law_1508 (by decide) rfl ?_
  refine mv_iinc (v := 6) (lv' := [(4, .int 6), (3, .ref 148), (2, .ref 99), (1, .ref 64), (0, .ref 50)]) d_TrustDeskLaw_law_1513 rfl (by decide) (by decide) rfl ?_
  refine mv_goto (tgt := 23) d_TrustDeskLaw_law_1516 (by decide) ?_
  refine mv_iload d_TrustDeskLaw_law_23 rfl ?_
  refine mv_aload_n d_TrustDeskLaw_law_25 rfl rfl ?_
  refine mv_slen (v := 6) d_TrustDeskLaw_law_26 (by rw [hL]; rfl) ?_
  refine mv_bipush (v := 6) d_TrustDeskLaw_law_27 (by decide) ?_
  refine mv_isubv (v := 0) d_TrustDeskLaw_law_29 (by decide) ?_
  refine mv_icmp_gt_t (tgt := 1519) d_TrustDeskLaw_law_30 (by decide) (by decide) ?_
  refine mv_iconst (v := 1) d_TrustDeskLaw_law_1519 (by decide) ?_
  exact mv_iret d_TrustDeskLaw_law_1520 rfl (by first | rfl | decide) rfl
