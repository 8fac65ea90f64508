set_option maxRecDepth 100000 in
set_option maxHeartbeats 4000000 in
/-- case 0: feed -/
theorem law_0 {Z : GZ} {X : CX} {Q : State → Prop} {rc rs : Nat} (C : Cx Z X cL_law 9 RL) (hV : VN (cS X)) (hl : (cL X).stackTraces = false) {b L i : Nat} {xs : Nat → Int32} (S : Sc X b L xs) (hL : L ≤ 3072) (hi : i + 6 ≤ L) {x mo ou : Nat → Nat} {f : Nat → Int64} {w1 w2 : va_W} {th : Int32} {N u tm : Nat} {er dg co : Int32} {pP pH pF pT op f1 f2 l0 tb : Nat → Int32} {hh c0 c1 c2 c3 : Nat → Nat} (hC : CI Z x N u tm er dg co pP pH pF pT op f1 f2 l0 hh c0 c1 c2 c3 tb w1) (hM : MI Z mo th N u tm er dg co pP pH pF pT op f1 f2 l0 hh c0 c1 c2 c3 tb w2) (next : ∀ w9, LI Z x mo ou w9 → Jd Z X room_1 9 Q rc rs 2021 [(4, .int (nI i)), (0, .ref b), (1, .ref (x 0)), (2, .ref (mo 0)), (3, .ref (ou 0))] [] w9) : Jd Z X room_1 9 Q (rc + 16) (rs + 3000) 204 [(4, .int (nI i)), (0, .ref b), (1, .ref (x 0)), (2, .ref (mo 0)), (3, .ref (ou 0))] [] ((wOu Z ou f ++ w1) ++ w2) := by
  refine J_aload_n C iL_law_204 rfl rfl ?_
  refine J_aload_n C iL_law_205 rfl rfl ?_
  refine J_iload C iL_law_206 rfl ?_
  refine J_iconst 1 C iL_law_208 rfl ?_
  refine J_iadd C iL_law_209 ?_
  rw [show (nI i) + 1 = nI (i + 1) from nI_add _ _]
  refine J_sld C S iL_law_210 (vp_in_nI (n := (i + 1)) (by omega) (by omega)) ?_
  rw [nI_clamp (n := (i + 1)) (by omega)]
  refine J_aload_n C iL_law_211 rfl rfl ?_
  refine J_iload C iL_law_212 rfl ?_
  refine J_iconst 2 C iL_law_214 rfl ?_
  refine J_iadd C iL_law_215 ?_
  rw [show (nI i) + 2 = nI (i + 2) from nI_add _ _]
  refine J_sld C S iL_law_216 (vp_in_nI (n := (i + 2)) (by omega) (by omega)) ?_
  rw [nI_clamp (n := (i + 2)) (by omega)]
  refine J_aload_n C iL_law_217 rfl rfl ?_
  refine J_iload C iL_law_218 rfl ?_
  refine J_iconst 3 C iL_law_220 rfl ?_
  refine J_iadd C iL_law_221 ?_
  rw [show (nI i) + 3 = nI (i + 3) from nI_add _ _]
  refine J_sld C S iL_law_222 (vp_in_nI (n := (i + 3)) (by omega) (by omega)) ?_
  rw [nI_clamp (n := (i + 3)) (by omega)]
  refine J_aload_n C iL_law_223 rfl rfl ?_
  refine J_iload C iL_law_224 rfl ?_
  refine J_iconst 4 C iL_law_226 rfl ?_
  refine J_iadd C iL_law_227 ?_
  rw [show (nI i) + 4 = nI (i + 4) from nI_add _ _]
  refine J_sld C S iL_law_228 (vp_in_nI (n := (i + 4)) (by omega) (by omega)) ?_
  rw [nI_clamp (n := (i + 4)) (by omega)]
  refine J_aload_n C iL_law_229 rfl rfl ?_
  refine J_iload C iL_law_230 rfl ?_
  refine J_iconst 5 C iL_law_232 rfl ?_
  refine J_iadd C iL_law_233 ?_
  rw [show (nI i) + 5 = nI (i + 5) from nI_add _ _]
  refine J_sld C S iL_law_234 (vp_in_nI (n := (i + 5)) (by omega) (by omega)) ?_
  rw [nI_clamp (n := (i + 5)) (by omega)]
  refine J_aload_n C iL_law_235 rfl rfl ?_
  refine J_cSL (As := [.ref (x 0), .int (xs (i + 1)), .int (xs (i + 2)), .int (xs (i + 3)), .int (xs (i + 4)), .int (xs (i + 5)), .ref (ou 0)]) (st := []) (rc2 := (rc + 15)) (rs2 := (rs + 2994)) (w0 := wOu Z ou f ++ w1) C hV iL_law_236 lm_L_105 ycw_L_feed ys_L_feed (k_feed hl hC) [] w2 rfl rfl ⟨Nat.le_of_ble_eq_true rfl, Nat.le_of_ble_eq_true rfl⟩ (Nat.le_of_ble_eq_true rfl) (by show (rc + 16) = 1 + (rc + 15); omega) (by show (rs + 3000) = 6 + (rs + 2994); omega) ?_
  rintro _ w10 ⟨rfl, f9, w11, rfl, ⟨hc, hv, hC1⟩ | ⟨hc, hC1⟩⟩
  · refine J_st (.int ((if ¬ tm ≤ 1980 then 1 else 0) : Int32) :: []) rfl ?_
    refine J_ws ((wOu Z ou f9 ++ w11) ++ w2) rfl ?_
    refine J_istore [(5, .int ((if ¬ tm ≤ 1980 then 1 else 0) : Int32)), (4, .int (nI i)), (0, .ref b), (1, .ref (x 0)), (2, .ref (mo 0)), (3, .ref (ou 0))] C iL_law_239 (by decide) rfl ?_
    refine J_aload_n C iL_law_241 rfl rfl ?_
    refine J_aload_n C iL_law_242 rfl rfl ?_
    refine J_iload C iL_law_243 rfl ?_
    refine J_iconst 1 C iL_law_245 rfl ?_
    refine J_iadd C iL_law_246 ?_
    rw [show (nI i) + 1 = nI (i + 1) from nI_add _ _]
    refine J_sld C S iL_law_247 (vp_in_nI (n := (i + 1)) (by omega) (by omega)) ?_
    rw [nI_clamp (n := (i + 1)) (by omega)]
    refine J_aload_n C iL_law_248 rfl rfl ?_
    refine J_iload C iL_law_249 rfl ?_
    refine J_iconst 2 C iL_law_251 rfl ?_
    refine J_iadd C iL_law_252 ?_
    rw [show (nI i) + 2 = nI (i + 2) from nI_add _ _]
    refine J_sld C S iL_law_253 (vp_in_nI (n := (i + 2)) (by omega) (by omega)) ?_
    rw [nI_clamp (n := (i + 2)) (by omega)]
    refine J_aload_n C iL_law_254 rfl rfl ?_
    refine J_iload C iL_law_255 rfl ?_
    refine J_iconst 3 C iL_law_257 rfl ?_
    refine J_iadd C iL_law_258 ?_
    rw [show (nI i) + 3 = nI (i + 3) from nI_add _ _]
    refine J_sld C S iL_law_259 (vp_in_nI (n := (i + 3)) (by omega) (by omega)) ?_
    rw [nI_clamp (n := (i + 3)) (by omega)]
    refine J_aload_n C iL_law_260 rfl rfl ?_
    refine J_iload C iL_law_261 rfl ?_
    refine J_iconst 4 C iL_law_263 rfl ?_
    refine J_iadd C iL_law_264 ?_
    rw [show (nI i) + 4 = nI (i + 4) from nI_add _ _]
    refine J_sld C S iL_law_265 (vp_in_nI (n := (i + 4)) (by omega) (by omega)) ?_
    rw [nI_clamp (n := (i + 4)) (by omega)]
    refine J_aload_n C iL_law_266 rfl rfl ?_
    refine J_iload C iL_law_267 rfl ?_
    refine J_iconst 5 C iL_law_269 rfl ?_
    refine J_iadd C iL_law_270 ?_
    rw [show (nI i) + 5 = nI (i + 5) from nI_add _ _]
    refine J_sld C S iL_law_271 (vp_in_nI (n := (i + 5)) (by omega) (by omega)) ?_
    rw [nI_clamp (n := (i + 5)) (by omega)]
    obtain ⟨fs2, hq2⟩ := hM.head
    refine J_cVb (ci := 9) (As := [.int (xs (i + 1)), .int (xs (i + 2)), .int (xs (i + 3)), .int (xs (i + 4)), .int (xs (i + 5))]) (st := []) (rc2 := (rc + 14)) (rs2 := (rs + 2989)) (w0 := w2) C iL_law_272 lm_L_110 yc_X10_feed yv_X10_feed (n_X10_feed hM) rfl rfl hq2 (wOu Z ou f9 ++ w11) [] (by simp only [List.append_nil]) rfl ⟨Nat.le_of_ble_eq_true rfl, Nat.le_of_ble_eq_true rfl⟩ (Nat.le_of_ble_eq_true rfl) (by show (rc + 15) = 1 + (rc + 14); omega) (by show (rs + 2994) = 5 + (rs + 2989); omega) ?_
    rintro _ w22 (⟨hc2, rfl, hM1⟩ | ⟨z9, hc2, rfl, hM1⟩)
    · refine J_st (.int (nI (tm + 20)) :: []) rfl ?_
      refine J_ws ((wOu Z ou f9 ++ w11) ++ w22) (by simp only [List.append_nil]) ?_
      refine J_istore [(6, .int (nI (tm + 20))), (5, .int ((if ¬ tm ≤ 1980 then 1 else 0) : Int32)), (4, .int (nI i)), (0, .ref b), (1, .ref (x 0)), (2, .ref (mo 0)), (3, .ref (ou 0))] C iL_law_275 (by decide) rfl ?_
      refine J_aload_n C iL_law_277 rfl rfl ?_
      obtain ⟨fs3, hq3⟩ := hM1.head
      refine J_cVb (ci := 9) (As := []) (st := []) (rc2 := (rc + 14)) (rs2 := (rs + 2989)) (w0 := w22) C iL_law_278 lm_L_111 yc_X10_thrown yv_X10_thrown (n_X10_thrown hM1) rfl rfl hq3 (wOu Z ou f9 ++ w11) [] (by simp only [List.append_nil]) rfl ⟨Nat.le_of_ble_eq_true rfl, Nat.le_of_ble_eq_true rfl⟩ (Nat.le_of_ble_eq_true rfl) (by show (rc + 14) = 0 + (rc + 14); omega) (by show (rs + 2989) = 0 + (rs + 2989); omega) ?_
      rintro _ w23 ⟨rfl, hM2⟩
      refine J_st (.int 0 :: []) rfl ?_
      refine J_ws ((wOu Z ou f9 ++ w11) ++ w23) (by simp only [List.append_nil]) ?_
      refine J_iload C iL_law_281 rfl ?_
      refine J_icmpeq 288 C iL_law_283 rfl (fun h283 => ?_) (fun h283 => absurd hc.symm h283)
      refine J_iload C iL_law_288 rfl ?_
      refine J_ifne 305 C iL_law_290 rfl (fun h290 => absurd hc h290) (fun h290 => ?_)
      refine J_aload_n C iL_law_293 rfl rfl ?_
      refine J_iconst 0 C iL_law_294 rfl ?_
      refine J_lald 0 C iL_law_295 rfl (vp_in_nI (n := 0) (by omega) (by decide)) ?_
      rw [show Int32.toNatClampNeg 0 = 0 from rfl]
      refine J_iload C iL_law_296 rfl ?_
      refine J_i2l C iL_law_298 ?_
      refine J_lcmp C iL_law_299 ?_
      refine J_ifeqL 305 C iL_law_300 rfl (fun h300 => ?_) (fun h300 => absurd hv h300)
      refine J_goto 2021 C iL_law_305 rfl ?_
      refine J_lvm [(4, .int (nI i)), (0, .ref b), (1, .ref (x 0)), (2, .ref (mo 0)), (3, .ref (ou 0))] rfl ?_
      refine J_less rc rs (by omega) (by omega) ?_
      exact next _ ⟨f9, w11, w23, _, _, _, _, _, _, _, _, _, _, _, _, _, _, _, _, _, _, _, _, _, rfl, hC1, hM2⟩
    · exact absurd hc hc2
  · refine J_st (.int ((if ¬ tm ≤ 1980 then 1 else 0) : Int32) :: []) rfl ?_
    refine J_ws ((wOu Z ou f9 ++ w11) ++ w2) rfl ?_
    refine J_istore [(5, .int ((if ¬ tm ≤ 1980 then 1 else 0) : Int32)), (4, .int (nI i)), (0, .ref b), (1, .ref (x 0)), (2, .ref (mo 0)), (3, .ref (ou 0))] C iL_law_239 (by decide) rfl ?_
    refine J_aload_n C iL_law_241 rfl rfl ?_
    refine J_aload_n C iL_law_242 rfl rfl ?_
    refine J_iload C iL_law_243 rfl ?_
    refine J_iconst 1 C iL_law_245 rfl ?_
    refine J_iadd C iL_law_246 ?_
    rw [show (nI i) + 1 = nI (i + 1) from nI_add _ _]
    refine J_sld C S iL_law_247 (vp_in_nI (n := (i + 1)) (by omega) (by omega)) ?_
    rw [nI_clamp (n := (i + 1)) (by omega)]
    refine J_aload_n C iL_law_248 rfl rfl ?_
    refine J_iload C iL_law_249 rfl ?_
    refine J_iconst 2 C iL_law_251 rfl ?_
    refine J_iadd C iL_law_252 ?_
    rw [show (nI i) + 2 = nI (i + 2) from nI_add _ _]
    refine J_sld C S iL_law_253 (vp_in_nI (n := (i + 2)) (by omega) (by omega)) ?_
    rw [nI_clamp (n := (i + 2)) (by omega)]
    refine J_aload_n C iL_law_254 rfl rfl ?_
    refine J_iload C iL_law_255 rfl ?_
    refine J_iconst 3 C iL_law_257 rfl ?_
    refine J_iadd C iL_law_258 ?_
    rw [show (nI i) + 3 = nI (i + 3) from nI_add _ _]
    refine J_sld C S iL_law_259 (vp_in_nI (n := (i + 3)) (by omega) (by omega)) ?_
    rw [nI_clamp (n := (i + 3)) (by omega)]
    refine J_aload_n C iL_law_260 rfl rfl ?_
    refine J_iload C iL_law_261 rfl ?_
    refine J_iconst 4 C iL_law_263 rfl ?_
    refine J_iadd C iL_law_264 ?_
    rw [show (nI i) + 4 = nI (i + 4) from nI_add _ _]
    refine J_sld C S iL_law_265 (vp_in_nI (n := (i + 4)) (by omega) (by omega)) ?_
    rw [nI_clamp (n := (i + 4)) (by omega)]
    refine J_aload_n C iL_law_266 rfl rfl ?_
    refine J_iload C iL_law_267 rfl ?_
    refine J_iconst 5 C iL_law_269 rfl ?_
    refine J_iadd C iL_law_270 ?_
    rw [show (nI i) + 5 = nI (i + 5) from nI_add _ _]
    refine J_sld C S iL_law_271 (vp_in_nI (n := (i + 5)) (by omega) (by omega)) ?_
    rw [nI_clamp (n := (i + 5)) (by omega)]
    obtain ⟨fs2, hq2⟩ := hM.head
    refine J_cVb (ci := 9) (As := [.int (xs (i + 1)), .int (xs (i + 2)), .int (xs (i + 3)), .int (xs (i + 4)), .int (xs (i + 5))]) (st := []) (rc2 := (rc + 14)) (rs2 := (rs + 2989)) (w0 := w2) C iL_law_272 lm_L_110 yc_X10_feed yv_X10_feed (n_X10_feed hM) rfl rfl hq2 (wOu Z ou f9 ++ w11) [] (by simp only [List.append_nil]) rfl ⟨Nat.le_of_ble_eq_true rfl, Nat.le_of_ble_eq_true rfl⟩ (Nat.le_of_ble_eq_true rfl) (by show (rc + 15) = 1 + (rc + 14); omega) (by show (rs + 2994) = 5 + (rs + 2989); omega) ?_
    rintro _ w22 (⟨hc2, rfl, hM1⟩ | ⟨z9, hc2, rfl, hM1⟩)
    · exact absurd hc2 hc
    · refine J_st (.int z9 :: []) rfl ?_
      refine J_ws ((wOu Z ou f9 ++ w11) ++ w22) (by simp only [List.append_nil]) ?_
      refine J_istore [(6, .int z9), (5, .int ((if ¬ tm ≤ 1980 then 1 else 0) : Int32)), (4, .int (nI i)), (0, .ref b), (1, .ref (x 0)), (2, .ref (mo 0)), (3, .ref (ou 0))] C iL_law_275 (by decide) rfl ?_
      refine J_aload_n C iL_law_277 rfl rfl ?_
      obtain ⟨fs3, hq3⟩ := hM1.head
      refine J_cVb (ci := 9) (As := []) (st := []) (rc2 := (rc + 14)) (rs2 := (rs + 2989)) (w0 := w22) C iL_law_278 lm_L_111 yc_X10_thrown yv_X10_thrown (n_X10_thrown hM1) rfl rfl hq3 (wOu Z ou f9 ++ w11) [] (by simp only [List.append_nil]) rfl ⟨Nat.le_of_ble_eq_true rfl, Nat.le_of_ble_eq_true rfl⟩ (Nat.le_of_ble_eq_true rfl) (by show (rc + 14) = 0 + (rc + 14); omega) (by show (rs + 2989) = 0 + (rs + 2989); omega) ?_
      rintro _ w23 ⟨rfl, hM2⟩
      refine J_st (.int ((if ¬ tm ≤ 1980 then 1 else 0) : Int32) :: []) rfl ?_
      refine J_ws ((wOu Z ou f9 ++ w11) ++ w23) (by simp only [List.append_nil]) ?_
      refine J_iload C iL_law_281 rfl ?_
      refine J_icmpeq 288 C iL_law_283 rfl (fun h283 => ?_) (fun h283 => absurd rfl h283)
      refine J_iload C iL_law_288 rfl ?_
      refine J_ifne 305 C iL_law_290 rfl (fun h290 => ?_) (fun h290 => absurd h290 hc)
      refine J_goto 2021 C iL_law_305 rfl ?_
      refine J_lvm [(4, .int (nI i)), (0, .ref b), (1, .ref (x 0)), (2, .ref (mo 0)), (3, .ref (ou 0))] rfl ?_
      refine J_less rc rs (by omega) (by omega) ?_
      exact next _ ⟨f9, w11, w23, _, _, _, _, _, _, _, _, _, _, _, _, _, _, _, _, _, _, _, _, _, rfl, hC1, hM2⟩

set_option maxRecDepth 100000 in
set_option maxHeartbeats 4000000 in
/-- case 1: trim -/
theorem law_1 {Z : GZ} {X : CX} {Q : State → Prop} {rc rs : Nat} (C : Cx Z X cL_law 9 RL) (hV : VN (cS X)) (hl : (cL X).stackTraces = false) {b L i : Nat} {xs : Nat → Int32} (S : Sc X b L xs) (hL : L ≤ 3072) (hi : i + 6 ≤ L) {x mo ou : Nat → Nat} {f : Nat → Int64} {w1 w2 : va_W} {th : Int32} {N u tm : Nat} {er dg co : Int32} {pP pH pF pT op f1 f2 l0 tb : Nat → Int32} {hh c0 c1 c2 c3 : Nat → Nat} (hC : CI Z x N u tm er dg co pP pH pF pT op f1 f2 l0 hh c0 c1 c2 c3 tb w1) (hM : MI Z mo th N u tm er dg co pP pH pF pT op f1 f2 l0 hh c0 c1 c2 c3 tb w2) (next : ∀ w9, LI Z x mo ou w9 → Jd Z X room_1 9 Q rc rs 2021 [(4, .int (nI i)), (0, .ref b), (1, .ref (x 0)), (2, .ref (mo 0)), (3, .ref (ou 0))] [] w9) : Jd Z X room_1 9 Q (rc + 16) (rs + 3000) 308 [(4, .int (nI i)), (0, .ref b), (1, .ref (x 0)), (2, .ref (mo 0)), (3, .ref (ou 0))] [] ((wOu Z ou f ++ w1) ++ w2) := by
  refine J_aload_n C iL_law_308 rfl rfl ?_
  refine J_aload_n C iL_law_309 rfl rfl ?_
  refine J_iload C iL_law_310 rfl ?_
  refine J_iconst 1 C iL_law_312 rfl ?_
  refine J_iadd C iL_law_313 ?_
  rw [show (nI i) + 1 = nI (i + 1) from nI_add _ _]
  refine J_sld C S iL_law_314 (vp_in_nI (n := (i + 1)) (by omega) (by omega)) ?_
  rw [nI_clamp (n := (i + 1)) (by omega)]
  refine J_aload_n C iL_law_315 rfl rfl ?_
  refine J_cSL (As := [.ref (x 0), .int (xs (i + 1)), .ref (ou 0)]) (st := []) (rc2 := (rc + 15)) (rs2 := (rs + 2994)) (w0 := wOu Z ou f ++ w1) C hV iL_law_316 lm_L_114 ycw_L_trim ys_L_trim (k_trim hl hC) [] w2 rfl rfl ⟨Nat.le_of_ble_eq_true rfl, Nat.le_of_ble_eq_true rfl⟩ (Nat.le_of_ble_eq_true rfl) (by show (rc + 16) = 1 + (rc + 15); omega) (by show (rs + 3000) = 6 + (rs + 2994); omega) ?_
  rintro _ w10 ⟨rfl, f9, w11, rfl, ⟨hc, hv, hC1⟩ | ⟨hc, hC1⟩⟩
  · refine J_st (.int ((if ((xs (i + 1)) < 0 ∨ nI tm < (xs (i + 1))) then 1 else 0) : Int32) :: []) rfl ?_
    refine J_ws ((wOu Z ou f9 ++ w11) ++ w2) rfl ?_
    refine J_istore [(5, .int ((if ((xs (i + 1)) < 0 ∨ nI tm < (xs (i + 1))) then 1 else 0) : Int32)), (4, .int (nI i)), (0, .ref b), (1, .ref (x 0)), (2, .ref (mo 0)), (3, .ref (ou 0))] C iL_law_319 (by decide) rfl ?_
    refine J_aload_n C iL_law_321 rfl rfl ?_
    refine J_aload_n C iL_law_322 rfl rfl ?_
    refine J_iload C iL_law_323 rfl ?_
    refine J_iconst 1 C iL_law_325 rfl ?_
    refine J_iadd C iL_law_326 ?_
    rw [show (nI i) + 1 = nI (i + 1) from nI_add _ _]
    refine J_sld C S iL_law_327 (vp_in_nI (n := (i + 1)) (by omega) (by omega)) ?_
    rw [nI_clamp (n := (i + 1)) (by omega)]
    obtain ⟨fs2, hq2⟩ := hM.head
    refine J_cVb (ci := 9) (As := [.int (xs (i + 1))]) (st := []) (rc2 := (rc + 15)) (rs2 := (rs + 2994)) (w0 := w2) C iL_law_328 lm_L_117 yc_X10_trim yv_X10_trim (n_X10_trim hM) rfl rfl hq2 (wOu Z ou f9 ++ w11) [] (by simp only [List.append_nil]) rfl ⟨Nat.le_of_ble_eq_true rfl, Nat.le_of_ble_eq_true rfl⟩ (Nat.le_of_ble_eq_true rfl) (by show (rc + 15) = 0 + (rc + 15); omega) (by show (rs + 2994) = 0 + (rs + 2994); omega) ?_
    rintro _ w22 (⟨hc2, rfl, hM1⟩ | ⟨z9, hc2, rfl, hM1⟩)
    · refine J_st (.int (xs (i + 1)) :: []) rfl ?_
      refine J_ws ((wOu Z ou f9 ++ w11) ++ w22) (by simp only [List.append_nil]) ?_
      refine J_istore [(6, .int (xs (i + 1))), (5, .int ((if ((xs (i + 1)) < 0 ∨ nI tm < (xs (i + 1))) then 1 else 0) : Int32)), (4, .int (nI i)), (0, .ref b), (1, .ref (x 0)), (2, .ref (mo 0)), (3, .ref (ou 0))] C iL_law_331 (by decide) rfl ?_
      refine J_aload_n C iL_law_333 rfl rfl ?_
      obtain ⟨fs3, hq3⟩ := hM1.head
      refine J_cVb (ci := 9) (As := []) (st := []) (rc2 := (rc + 15)) (rs2 := (rs + 2994)) (w0 := w22) C iL_law_334 lm_L_111 yc_X10_thrown yv_X10_thrown (n_X10_thrown hM1) rfl rfl hq3 (wOu Z ou f9 ++ w11) [] (by simp only [List.append_nil]) rfl ⟨Nat.le_of_ble_eq_true rfl, Nat.le_of_ble_eq_true rfl⟩ (Nat.le_of_ble_eq_true rfl) (by show (rc + 15) = 0 + (rc + 15); omega) (by show (rs + 2994) = 0 + (rs + 2994); omega) ?_
      rintro _ w23 ⟨rfl, hM2⟩
      refine J_st (.int 0 :: []) rfl ?_
      refine J_ws ((wOu Z ou f9 ++ w11) ++ w23) (by simp only [List.append_nil]) ?_
      refine J_iload C iL_law_337 rfl ?_
      refine J_icmpeq 344 C iL_law_339 rfl (fun h339 => ?_) (fun h339 => absurd hc.symm h339)
      refine J_iload C iL_law_344 rfl ?_
      refine J_ifne 361 C iL_law_346 rfl (fun h346 => absurd hc h346) (fun h346 => ?_)
      refine J_aload_n C iL_law_349 rfl rfl ?_
      refine J_iconst 0 C iL_law_350 rfl ?_
      refine J_lald 0 C iL_law_351 rfl (vp_in_nI (n := 0) (by omega) (by decide)) ?_
      rw [show Int32.toNatClampNeg 0 = 0 from rfl]
      refine J_iload C iL_law_352 rfl ?_
      refine J_i2l C iL_law_354 ?_
      refine J_lcmp C iL_law_355 ?_
      refine J_ifeqL 361 C iL_law_356 rfl (fun h356 => ?_) (fun h356 => absurd hv h356)
      refine J_goto 2021 C iL_law_361 rfl ?_
      refine J_lvm [(4, .int (nI i)), (0, .ref b), (1, .ref (x 0)), (2, .ref (mo 0)), (3, .ref (ou 0))] rfl ?_
      refine J_less rc rs (by omega) (by omega) ?_
      exact next _ ⟨f9, w11, w23, _, _, _, _, _, _, _, _, _, _, _, _, _, _, _, _, _, _, _, _, _, rfl, hC1, hM2⟩
    · exact absurd hc hc2
  · refine J_st (.int ((if ((xs (i + 1)) < 0 ∨ nI tm < (xs (i + 1))) then 1 else 0) : Int32) :: []) rfl ?_
    refine J_ws ((wOu Z ou f9 ++ w11) ++ w2) rfl ?_
    refine J_istore [(5, .int ((if ((xs (i + 1)) < 0 ∨ nI tm < (xs (i + 1))) then 1 else 0) : Int32)), (4, .int (nI i)), (0, .ref b), (1, .ref (x 0)), (2, .ref (mo 0)), (3, .ref (ou 0))] C iL_law_319 (by decide) rfl ?_
    refine J_aload_n C iL_law_321 rfl rfl ?_
    refine J_aload_n C iL_law_322 rfl rfl ?_
    refine J_iload C iL_law_323 rfl ?_
    refine J_iconst 1 C iL_law_325 rfl ?_
    refine J_iadd C iL_law_326 ?_
    rw [show (nI i) + 1 = nI (i + 1) from nI_add _ _]
    refine J_sld C S iL_law_327 (vp_in_nI (n := (i + 1)) (by omega) (by omega)) ?_
    rw [nI_clamp (n := (i + 1)) (by omega)]
    obtain ⟨fs2, hq2⟩ := hM.head
    refine J_cVb (ci := 9) (As := [.int (xs (i + 1))]) (st := []) (rc2 := (rc + 15)) (rs2 := (rs + 2994)) (w0 := w2) C iL_law_328 lm_L_117 yc_X10_trim yv_X10_trim (n_X10_trim hM) rfl rfl hq2 (wOu Z ou f9 ++ w11) [] (by simp only [List.append_nil]) rfl ⟨Nat.le_of_ble_eq_true rfl, Nat.le_of_ble_eq_true rfl⟩ (Nat.le_of_ble_eq_true rfl) (by show (rc + 15) = 0 + (rc + 15); omega) (by show (rs + 2994) = 0 + (rs + 2994); omega) ?_
    rintro _ w22 (⟨hc2, rfl, hM1⟩ | ⟨z9, hc2, rfl, hM1⟩)
    · exact absurd hc2 hc
    · refine J_st (.int z9 :: []) rfl ?_
      refine J_ws ((wOu Z ou f9 ++ w11) ++ w22) (by simp only [List.append_nil]) ?_
      refine J_istore [(6, .int z9), (5, .int ((if ((xs (i + 1)) < 0 ∨ nI tm < (xs (i + 1))) then 1 else 0) : Int32)), (4, .int (nI i)), (0, .ref b), (1, .ref (x 0)), (2, .ref (mo 0)), (3, .ref (ou 0))] C iL_law_331 (by decide) rfl ?_
      refine J_aload_n C iL_law_333 rfl rfl ?_
      obtain ⟨fs3, hq3⟩ := hM1.head
      refine J_cVb (ci := 9) (As := []) (st := []) (rc2 := (rc + 15)) (rs2 := (rs + 2994)) (w0 := w22) C iL_law_334 lm_L_111 yc_X10_thrown yv_X10_thrown (n_X10_thrown hM1) rfl rfl hq3 (wOu Z ou f9 ++ w11) [] (by simp only [List.append_nil]) rfl ⟨Nat.le_of_ble_eq_true rfl, Nat.le_of_ble_eq_true rfl⟩ (Nat.le_of_ble_eq_true rfl) (by show (rc + 15) = 0 + (rc + 15); omega) (by show (rs + 2994) = 0 + (rs + 2994); omega) ?_
      rintro _ w23 ⟨rfl, hM2⟩
      refine J_st (.int ((if ((xs (i + 1)) < 0 ∨ nI tm < (xs (i + 1))) then 1 else 0) : Int32) :: []) rfl ?_
      refine J_ws ((wOu Z ou f9 ++ w11) ++ w23) (by simp only [List.append_nil]) ?_
      refine J_iload C iL_law_337 rfl ?_
      refine J_icmpeq 344 C iL_law_339 rfl (fun h339 => ?_) (fun h339 => absurd rfl h339)
      refine J_iload C iL_law_344 rfl ?_
      refine J_ifne 361 C iL_law_346 rfl (fun h346 => ?_) (fun h346 => absurd h346 hc)
      refine J_goto 2021 C iL_law_361 rfl ?_
      refine J_lvm [(4, .int (nI i)), (0, .ref b), (1, .ref (x 0)), (2, .ref (mo 0)), (3, .ref (ou 0))] rfl ?_
      refine J_less rc rs (by omega) (by omega) ?_
      exact next _ ⟨f9, w11, w23, _, _, _, _, _, _, _, _, _, _, _, _, _, _, _, _, _, _, _, _, _, rfl, hC1, hM2⟩

set_option maxRecDepth 100000 in
set_option maxHeartbeats 4000000 in
/-- case 10: worstHouse -/
theorem law_10 {Z : GZ} {X : CX} {Q : State → Prop} {rc rs : Nat} (C : Cx Z X cL_law 9 RL) (hV : VN (cS X)) (hl : (cL X).stackTraces = false) {b L i : Nat} {xs : Nat → Int32} (S : Sc X b L xs) (hL : L ≤ 3072) (hi : i + 6 ≤ L) {x mo ou : Nat → Nat} {f : Nat → Int64} {w1 w2 : va_W} {th : Int32} {N u tm : Nat} {er dg co : Int32} {pP pH pF pT op f1 f2 l0 tb : Nat → Int32} {hh c0 c1 c2 c3 : Nat → Nat} (hC : CI Z x N u tm er dg co pP pH pF pT op f1 f2 l0 hh c0 c1 c2 c3 tb w1) (hM : MI Z mo th N u tm er dg co pP pH pF pT op f1 f2 l0 hh c0 c1 c2 c3 tb w2) (next : ∀ w9, LI Z x mo ou w9 → Jd Z X room_1 9 Q rc rs 2021 [(4, .int (nI i)), (0, .ref b), (1, .ref (x 0)), (2, .ref (mo 0)), (3, .ref (ou 0))] [] w9) : Jd Z X room_1 9 Q (rc + 16) (rs + 3000) 468 [(4, .int (nI i)), (0, .ref b), (1, .ref (x 0)), (2, .ref (mo 0)), (3, .ref (ou 0))] [] ((wOu Z ou f ++ w1) ++ w2) := by
  refine J_aload_n C iL_law_468 rfl rfl ?_
  refine J_aload_n C iL_law_469 rfl rfl ?_
  refine J_cSL (As := [.ref (x 0), .ref (ou 0)]) (st := []) (rc2 := (rc + 15)) (rs2 := (rs + 2994)) (w0 := wOu Z ou f ++ w1) C hV iL_law_470 lm_L_150 ycw_L_worstHouse ys_L_worstHouse (k_worstHouse hl hC) [] w2 rfl rfl ⟨Nat.le_of_ble_eq_true rfl, Nat.le_of_ble_eq_true rfl⟩ (Nat.le_of_ble_eq_true rfl) (by show (rc + 16) = 1 + (rc + 15); omega) (by show (rs + 3000) = 6 + (rs + 2994); omega) ?_
  rintro _ w10 ⟨rfl, f9, w11, rfl, ⟨hc, hv, hC1⟩ | ⟨hc, hC1⟩⟩
  · refine J_st (.int ((if nI N = 0 then 1 else 0) : Int32) :: []) rfl ?_
    refine J_ws ((wOu Z ou f9 ++ w11) ++ w2) rfl ?_
    refine J_istore [(5, .int ((if nI N = 0 then 1 else 0) : Int32)), (4, .int (nI i)), (0, .ref b), (1, .ref (x 0)), (2, .ref (mo 0)), (3, .ref (ou 0))] C iL_law_473 (by decide) rfl ?_
    refine J_aload_n C iL_law_475 rfl rfl ?_
    obtain ⟨fs2, hq2⟩ := hM.head
    refine J_cVb (ci := 9) (As := []) (st := []) (rc2 := (rc + 15)) (rs2 := (rs + 2994)) (w0 := w2) C iL_law_476 lm_L_153 yc_X10_worstHouse yv_X10_worstHouse (n_X10_worstHouse hM) rfl rfl hq2 (wOu Z ou f9 ++ w11) [] (by simp only [List.append_nil]) rfl ⟨Nat.le_of_ble_eq_true rfl, Nat.le_of_ble_eq_true rfl⟩ (Nat.le_of_ble_eq_true rfl) (by show (rc + 15) = 0 + (rc + 15); omega) (by show (rs + 2994) = 0 + (rs + 2994); omega) ?_
    rintro _ w22 (⟨hc2, rfl, hM1⟩ | ⟨z9, hc2, rfl, hM1⟩)
    · refine J_st (.int (nI (amx (lsI N (dkG N pP pH pF pT)) N)) :: []) rfl ?_
      refine J_ws ((wOu Z ou f9 ++ w11) ++ w22) (by simp only [List.append_nil]) ?_
      refine J_istore [(6, .int (nI (amx (lsI N (dkG N pP pH pF pT)) N))), (5, .int ((if nI N = 0 then 1 else 0) : Int32)), (4, .int (nI i)), (0, .ref b), (1, .ref (x 0)), (2, .ref (mo 0)), (3, .ref (ou 0))] C iL_law_479 (by decide) rfl ?_
      refine J_aload_n C iL_law_481 rfl rfl ?_
      obtain ⟨fs3, hq3⟩ := hM1.head
      refine J_cVb (ci := 9) (As := []) (st := []) (rc2 := (rc + 15)) (rs2 := (rs + 2994)) (w0 := w22) C iL_law_482 lm_L_111 yc_X10_thrown yv_X10_thrown (n_X10_thrown hM1) rfl rfl hq3 (wOu Z ou f9 ++ w11) [] (by simp only [List.append_nil]) rfl ⟨Nat.le_of_ble_eq_true rfl, Nat.le_of_ble_eq_true rfl⟩ (Nat.le_of_ble_eq_true rfl) (by show (rc + 15) = 0 + (rc + 15); omega) (by show (rs + 2994) = 0 + (rs + 2994); omega) ?_
      rintro _ w23 ⟨rfl, hM2⟩
      refine J_st (.int 0 :: []) rfl ?_
      refine J_ws ((wOu Z ou f9 ++ w11) ++ w23) (by simp only [List.append_nil]) ?_
      refine J_iload C iL_law_485 rfl ?_
      refine J_icmpeq 492 C iL_law_487 rfl (fun h487 => ?_) (fun h487 => absurd hc.symm h487)
      refine J_iload C iL_law_492 rfl ?_
      refine J_ifne 509 C iL_law_494 rfl (fun h494 => absurd hc h494) (fun h494 => ?_)
      refine J_aload_n C iL_law_497 rfl rfl ?_
      refine J_iconst 0 C iL_law_498 rfl ?_
      refine J_lald 0 C iL_law_499 rfl (vp_in_nI (n := 0) (by omega) (by decide)) ?_
      rw [show Int32.toNatClampNeg 0 = 0 from rfl]
      refine J_iload C iL_law_500 rfl ?_
      refine J_i2l C iL_law_502 ?_
      refine J_lcmp C iL_law_503 ?_
      refine J_ifeqL 509 C iL_law_504 rfl (fun h504 => ?_) (fun h504 => absurd hv h504)
      refine J_goto 2021 C iL_law_509 rfl ?_
      refine J_lvm [(4, .int (nI i)), (0, .ref b), (1, .ref (x 0)), (2, .ref (mo 0)), (3, .ref (ou 0))] rfl ?_
      refine J_less rc rs (by omega) (by omega) ?_
      exact next _ ⟨f9, w11, w23, _, _, _, _, _, _, _, _, _, _, _, _, _, _, _, _, _, _, _, _, _, rfl, hC1, hM2⟩
    · exact absurd hc hc2
  · refine J_st (.int ((if nI N = 0 then 1 else 0) : Int32) :: []) rfl ?_
    refine J_ws ((wOu Z ou f9 ++ w11) ++ w2) rfl ?_
    refine J_istore [(5, .int ((if nI N = 0 then 1 else 0) : Int32)), (4, .int (nI i)), (0, .ref b), (1, .ref (x 0)), (2, .ref (mo 0)), (3, .ref (ou 0))] C iL_law_473 (by decide) rfl ?_
    refine J_aload_n C iL_law_475 rfl rfl ?_
    obtain ⟨fs2, hq2⟩ := hM.head
    refine J_cVb (ci := 9) (As := []) (st := []) (rc2 := (rc + 15)) (rs2 := (rs + 2994)) (w0 := w2) C iL_law_476 lm_L_153 yc_X10_worstHouse yv_X10_worstHouse (n_X10_worstHouse hM) rfl rfl hq2 (wOu Z ou f9 ++ w11) [] (by simp only [List.append_nil]) rfl ⟨Nat.le_of_ble_eq_true rfl, Nat.le_of_ble_eq_true rfl⟩ (Nat.le_of_ble_eq_true rfl) (by show (rc + 15) = 0 + (rc + 15); omega) (by show (rs + 2994) = 0 + (rs + 2994); omega) ?_
    rintro _ w22 (⟨hc2, rfl, hM1⟩ | ⟨z9, hc2, rfl, hM1⟩)
    · exact absurd hc2 hc
    · refine J_st (.int z9 :: []) rfl ?_
      refine J_ws ((wOu Z ou f9 ++ w11) ++ w22) (by simp only [List.append_nil]) ?_
      refine J_istore [(6, .int z9), (5, .int ((if nI N = 0 then 1 else 0) : Int32)), (4, .int (nI i)), (0, .ref b), (1, .ref (x 0)), (2, .ref (mo 0)), (3, .ref (ou 0))] C iL_law_479 (by decide) rfl ?_
      refine J_aload_n C iL_law_481 rfl rfl ?_
      obtain ⟨fs3, hq3⟩ := hM1.head
      refine J_cVb (ci := 9) (As := []) (st := []) (rc2 := (rc + 15)) (rs2 := (rs + 2994)) (w0 := w22) C iL_law_482 lm_L_111 yc_X10_thrown yv_X10_thrown (n_X10_thrown hM1) rfl rfl hq3 (wOu Z ou f9 ++ w11) [] (by simp only [List.append_nil]) rfl ⟨Nat.le_of_ble_eq_true rfl, Nat.le_of_ble_eq_true rfl⟩ (Nat.le_of_ble_eq_true rfl) (by show (rc + 15) = 0 + (rc + 15); omega) (by show (rs + 2994) = 0 + (rs + 2994); omega) ?_
      rintro _ w23 ⟨rfl, hM2⟩
      refine J_st (.int ((if nI N = 0 then 1 else 0) : Int32) :: []) rfl ?_
      refine J_ws ((wOu Z ou f9 ++ w11) ++ w23) (by simp only [List.append_nil]) ?_
      refine J_iload C iL_law_485 rfl ?_
      refine J_icmpeq 492 C iL_law_487 rfl (fun h487 => ?_) (fun h487 => absurd rfl h487)
      refine J_iload C iL_law_492 rfl ?_
      refine J_ifne 509 C iL_law_494 rfl (fun h494 => ?_) (fun h494 => absurd h494 hc)
      refine J_goto 2021 C iL_law_509 rfl ?_
      refine J_lvm [(4, .int (nI i)), (0, .ref b), (1, .ref (x 0)), (2, .ref (mo 0)), (3, .ref (ou 0))] rfl ?_
      refine J_less rc rs (by omega) (by omega) ?_
      exact next _ ⟨f9, w11, w23, _, _, _, _, _, _, _, _, _, _, _, _, _, _, _, _, _, _, _, _, _, rfl, hC1, hM2⟩

set_option maxRecDepth 100000 in
set_option maxHeartbeats 4000000 in
/-- case 11: darkestWall -/
theorem law_11 {Z : GZ} {X : CX} {Q : State → Prop} {rc rs : Nat} (C : Cx Z X cL_law 9 RL) (hV : VN (cS X)) (hl : (cL X).stackTraces = false) {b L i : Nat} {xs : Nat → Int32} (S : Sc X b L xs) (hL : L ≤ 3072) (hi : i + 6 ≤ L) {x mo ou : Nat → Nat} {f : Nat → Int64} {w1 w2 : va_W} {th : Int32} {N u tm : Nat} {er dg co : Int32} {pP pH pF pT op f1 f2 l0 tb : Nat → Int32} {hh c0 c1 c2 c3 : Nat → Nat} (hC : CI Z x N u tm er dg co pP pH pF pT op f1 f2 l0 hh c0 c1 c2 c3 tb w1) (hM : MI Z mo th N u tm er dg co pP pH pF pT op f1 f2 l0 hh c0 c1 c2 c3 tb w2) (next : ∀ w9, LI Z x mo ou w9 → Jd Z X room_1 9 Q rc rs 2021 [(4, .int (nI i)), (0, .ref b), (1, .ref (x 0)), (2, .ref (mo 0)), (3, .ref (ou 0))] [] w9) : Jd Z X room_1 9 Q (rc + 16) (rs + 3000) 512 [(4, .int (nI i)), (0, .ref b), (1, .ref (x 0)), (2, .ref (mo 0)), (3, .ref (ou 0))] [] ((wOu Z ou f ++ w1) ++ w2) := by
  refine J_aload_n C iL_law_512 rfl rfl ?_
  refine J_aload_n C iL_law_513 rfl rfl ?_
  refine J_cSL (As := [.ref (x 0), .ref (ou 0)]) (st := []) (rc2 := (rc + 15)) (rs2 := (rs + 2994)) (w0 := wOu Z ou f ++ w1) C hV iL_law_514 lm_L_154 ycw_L_darkestWall ys_L_darkestWall (k_darkestWall hl hC) [] w2 rfl rfl ⟨Nat.le_of_ble_eq_true rfl, Nat.le_of_ble_eq_true rfl⟩ (Nat.le_of_ble_eq_true rfl) (by show (rc + 16) = 1 + (rc + 15); omega) (by show (rs + 3000) = 6 + (rs + 2994); omega) ?_
  rintro _ w10 ⟨rfl, f9, w11, rfl, ⟨hc, hv, hC1⟩ | ⟨hc, hC1⟩⟩
  · refine J_st (.int ((if nI N = 0 then 1 else 0) : Int32) :: []) rfl ?_
    refine J_ws ((wOu Z ou f9 ++ w11) ++ w2) rfl ?_
    refine J_istore [(5, .int ((if nI N = 0 then 1 else 0) : Int32)), (4, .int (nI i)), (0, .ref b), (1, .ref (x 0)), (2, .ref (mo 0)), (3, .ref (ou 0))] C iL_law_517 (by decide) rfl ?_
    refine J_aload_n C iL_law_519 rfl rfl ?_
    obtain ⟨fs2, hq2⟩ := hM.head
    refine J_cVb (ci := 9) (As := []) (st := []) (rc2 := (rc + 15)) (rs2 := (rs + 2994)) (w0 := w2) C iL_law_520 lm_L_156 yc_X10_darkestWall yv_X10_darkestWall (n_X10_darkestWall hM) rfl rfl hq2 (wOu Z ou f9 ++ w11) [] (by simp only [List.append_nil]) rfl ⟨Nat.le_of_ble_eq_true rfl, Nat.le_of_ble_eq_true rfl⟩ (Nat.le_of_ble_eq_true rfl) (by show (rc + 15) = 0 + (rc + 15); omega) (by show (rs + 2994) = 0 + (rs + 2994); omega) ?_
    rintro _ w22 (⟨hc2, rfl, hM1⟩ | ⟨z9, hc2, rfl, hM1⟩)
    · refine J_st (.int (nI (amx (csI N (csG N pP pH pF pT)) N)) :: []) rfl ?_
      refine J_ws ((wOu Z ou f9 ++ w11) ++ w22) (by simp only [List.append_nil]) ?_
      refine J_istore [(6, .int (nI (amx (csI N (csG N pP pH pF pT)) N))), (5, .int ((if nI N = 0 then 1 else 0) : Int32)), (4, .int (nI i)), (0, .ref b), (1, .ref (x 0)), (2, .ref (mo 0)), (3, .ref (ou 0))] C iL_law_523 (by decide) rfl ?_
      refine J_aload_n C iL_law_525 rfl rfl ?_
      obtain ⟨fs3, hq3⟩ := hM1.head
      refine J_cVb (ci := 9) (As := []) (st := []) (rc2 := (rc + 15)) (rs2 := (rs + 2994)) (w0 := w22) C iL_law_526 lm_L_111 yc_X10_thrown yv_X10_thrown (n_X10_thrown hM1) rfl rfl hq3 (wOu Z ou f9 ++ w11) [] (by simp only [List.append_nil]) rfl ⟨Nat.le_of_ble_eq_true rfl, Nat.le_of_ble_eq_true rfl⟩ (Nat.le_of_ble_eq_true rfl) (by show (rc + 15) = 0 + (rc + 15); omega) (by show (rs + 2994) = 0 + (rs + 2994); omega) ?_
      rintro _ w23 ⟨rfl, hM2⟩
      refine J_st (.int 0 :: []) rfl ?_
      refine J_ws ((wOu Z ou f9 ++ w11) ++ w23) (by simp only [List.append_nil]) ?_
      refine J_iload C iL_law_529 rfl ?_
      refine J_icmpeq 536 C iL_law_531 rfl (fun h531 => ?_) (fun h531 => absurd hc.symm h531)
      refine J_iload C iL_law_536 rfl ?_
      refine J_ifne 553 C iL_law_538 rfl (fun h538 => absurd hc h538) (fun h538 => ?_)
      refine J_aload_n C iL_law_541 rfl rfl ?_
      refine J_iconst 0 C iL_law_542 rfl ?_
      refine J_lald 0 C iL_law_543 rfl (vp_in_nI (n := 0) (by omega) (by decide)) ?_
      rw [show Int32.toNatClampNeg 0 = 0 from rfl]
      refine J_iload C iL_law_544 rfl ?_
      refine J_i2l C iL_law_546 ?_
      refine J_lcmp C iL_law_547 ?_
      refine J_ifeqL 553 C iL_law_548 rfl (fun h548 => ?_) (fun h548 => absurd hv h548)
      refine J_goto 2021 C iL_law_553 rfl ?_
      refine J_lvm [(4, .int (nI i)), (0, .ref b), (1, .ref (x 0)), (2, .ref (mo 0)), (3, .ref (ou 0))] rfl ?_
      refine J_less rc rs (by omega) (by omega) ?_
      exact next _ ⟨f9, w11, w23, _, _, _, _, _, _, _, _, _, _, _, _, _, _, _, _, _, _, _, _, _, rfl, hC1, hM2⟩
    · exact absurd hc hc2
  · refine J_st (.int ((if nI N = 0 then 1 else 0) : Int32) :: []) rfl ?_
    refine J_ws ((wOu Z ou f9 ++ w11) ++ w2) rfl ?_
    refine J_istore [(5, .int ((if nI N = 0 then 1 else 0) : Int32)), (4, .int (nI i)), (0, .ref b), (1, .ref (x 0)), (2, .ref (mo 0)), (3, .ref (ou 0))] C iL_law_517 (by decide) rfl ?_
    refine J_aload_n C iL_law_519 rfl rfl ?_
    obtain ⟨fs2, hq2⟩ := hM.head
    refine J_cVb (ci := 9) (As := []) (st := []) (rc2 := (rc + 15)) (rs2 := (rs + 2994)) (w0 := w2) C iL_law_520 lm_L_156 yc_X10_darkestWall yv_X10_darkestWall (n_X10_darkestWall hM) rfl rfl hq2 (wOu Z ou f9 ++ w11) [] (by simp only [List.append_nil]) rfl ⟨Nat.le_of_ble_eq_true rfl, Nat.le_of_ble_eq_true rfl⟩ (Nat.le_of_ble_eq_true rfl) (by show (rc + 15) = 0 + (rc + 15); omega) (by show (rs + 2994) = 0 + (rs + 2994); omega) ?_
    rintro _ w22 (⟨hc2, rfl, hM1⟩ | ⟨z9, hc2, rfl, hM1⟩)
    · exact absurd hc2 hc
    · refine J_st (.int z9 :: []) rfl ?_
      refine J_ws ((wOu Z ou f9 ++ w11) ++ w22) (by simp only [List.append_nil]) ?_
      refine J_istore [(6, .int z9), (5, .int ((if nI N = 0 then 1 else 0) : Int32)), (4, .int (nI i)), (0, .ref b), (1, .ref (x 0)), (2, .ref (mo 0)), (3, .ref (ou 0))] C iL_law_523 (by decide) rfl ?_
      refine J_aload_n C iL_law_525 rfl rfl ?_
      obtain ⟨fs3, hq3⟩ := hM1.head
      refine J_cVb (ci := 9) (As := []) (st := []) (rc2 := (rc + 15)) (rs2 := (rs + 2994)) (w0 := w22) C iL_law_526 lm_L_111 yc_X10_thrown yv_X10_thrown (n_X10_thrown hM1) rfl rfl hq3 (wOu Z ou f9 ++ w11) [] (by simp only [List.append_nil]) rfl ⟨Nat.le_of_ble_eq_true rfl, Nat.le_of_ble_eq_true rfl⟩ (Nat.le_of_ble_eq_true rfl) (by show (rc + 15) = 0 + (rc + 15); omega) (by show (rs + 2994) = 0 + (rs + 2994); omega) ?_
      rintro _ w23 ⟨rfl, hM2⟩
      refine J_st (.int ((if nI N = 0 then 1 else 0) : Int32) :: []) rfl ?_
      refine J_ws ((wOu Z ou f9 ++ w11) ++ w23) (by simp only [List.append_nil]) ?_
      refine J_iload C iL_law_529 rfl ?_
      refine J_icmpeq 536 C iL_law_531 rfl (fun h531 => ?_) (fun h531 => absurd rfl h531)
      refine J_iload C iL_law_536 rfl ?_
      refine J_ifne 553 C iL_law_538 rfl (fun h538 => ?_) (fun h538 => absurd h538 hc)
      refine J_goto 2021 C iL_law_553 rfl ?_
      refine J_lvm [(4, .int (nI i)), (0, .ref b), (1, .ref (x 0)), (2, .ref (mo 0)), (3, .ref (ou 0))] rfl ?_
      refine J_less rc rs (by omega) (by omega) ?_
      exact next _ ⟨f9, w11, w23, _, _, _, _, _, _, _, _, _, _, _, _, _, _, _, _, _, _, _, _, _, rfl, hC1, hM2⟩

set_option maxRecDepth 100000 in
set_option maxHeartbeats 4000000 in
/-- case 12: placeOf -/
theorem law_12 {Z : GZ} {X : CX} {Q : State → Prop} {rc rs : Nat} (C : Cx Z X cL_law 9 RL) (hV : VN (cS X)) (hl : (cL X).stackTraces = false) {b L i : Nat} {xs : Nat → Int32} (S : Sc X b L xs) (hL : L ≤ 3072) (hi : i + 6 ≤ L) {x mo ou : Nat → Nat} {f : Nat → Int64} {w1 w2 : va_W} {th : Int32} {N u tm : Nat} {er dg co : Int32} {pP pH pF pT op f1 f2 l0 tb : Nat → Int32} {hh c0 c1 c2 c3 : Nat → Nat} (hC : CI Z x N u tm er dg co pP pH pF pT op f1 f2 l0 hh c0 c1 c2 c3 tb w1) (hM : MI Z mo th N u tm er dg co pP pH pF pT op f1 f2 l0 hh c0 c1 c2 c3 tb w2) (next : ∀ w9, LI Z x mo ou w9 → Jd Z X room_1 9 Q rc rs 2021 [(4, .int (nI i)), (0, .ref b), (1, .ref (x 0)), (2, .ref (mo 0)), (3, .ref (ou 0))] [] w9) : Jd Z X room_1 9 Q (rc + 16) (rs + 3000) 556 [(4, .int (nI i)), (0, .ref b), (1, .ref (x 0)), (2, .ref (mo 0)), (3, .ref (ou 0))] [] ((wOu Z ou f ++ w1) ++ w2) := by
  refine J_aload_n C iL_law_556 rfl rfl ?_
  refine J_aload_n C iL_law_557 rfl rfl ?_
  refine J_iload C iL_law_558 rfl ?_
  refine J_iconst 1 C iL_law_560 rfl ?_
  refine J_iadd C iL_law_561 ?_
  rw [show (nI i) + 1 = nI (i + 1) from nI_add _ _]
  refine J_sld C S iL_law_562 (vp_in_nI (n := (i + 1)) (by omega) (by omega)) ?_
  rw [nI_clamp (n := (i + 1)) (by omega)]
  refine J_aload_n C iL_law_563 rfl rfl ?_
  refine J_cSL (As := [.ref (x 0), .int (xs (i + 1)), .ref (ou 0)]) (st := []) (rc2 := (rc + 15)) (rs2 := (rs + 2994)) (w0 := wOu Z ou f ++ w1) C hV iL_law_564 lm_L_157 ycw_L_placeOf ys_L_placeOf (k_placeOf hl hC) [] w2 rfl rfl ⟨Nat.le_of_ble_eq_true rfl, Nat.le_of_ble_eq_true rfl⟩ (Nat.le_of_ble_eq_true rfl) (by show (rc + 16) = 1 + (rc + 15); omega) (by show (rs + 3000) = 6 + (rs + 2994); omega) ?_
  rintro _ w10 ⟨rfl, f9, w11, rfl, ⟨hc, hv, hC1⟩ | ⟨hc, hC1⟩⟩
  · refine J_st (.int ((if ¬ hasB (nI N) (xs (i + 1)) = true then 1 else 0) : Int32) :: []) rfl ?_
    refine J_ws ((wOu Z ou f9 ++ w11) ++ w2) rfl ?_
    refine J_istore [(5, .int ((if ¬ hasB (nI N) (xs (i + 1)) = true then 1 else 0) : Int32)), (4, .int (nI i)), (0, .ref b), (1, .ref (x 0)), (2, .ref (mo 0)), (3, .ref (ou 0))] C iL_law_567 (by decide) rfl ?_
    refine J_aload_n C iL_law_569 rfl rfl ?_
    refine J_aload_n C iL_law_570 rfl rfl ?_
    refine J_iload C iL_law_571 rfl ?_
    refine J_iconst 1 C iL_law_573 rfl ?_
    refine J_iadd C iL_law_574 ?_
    rw [show (nI i) + 1 = nI (i + 1) from nI_add _ _]
    refine J_sld C S iL_law_575 (vp_in_nI (n := (i + 1)) (by omega) (by omega)) ?_
    rw [nI_clamp (n := (i + 1)) (by omega)]
    obtain ⟨fs2, hq2⟩ := hM.head
    refine J_cVb (ci := 9) (As := [.int (xs (i + 1))]) (st := []) (rc2 := (rc + 15)) (rs2 := (rs + 2994)) (w0 := w2) C iL_law_576 lm_L_159 yc_X10_placeOf yv_X10_placeOf (n_X10_placeOf hM) rfl rfl hq2 (wOu Z ou f9 ++ w11) [] (by simp only [List.append_nil]) rfl ⟨Nat.le_of_ble_eq_true rfl, Nat.le_of_ble_eq_true rfl⟩ (Nat.le_of_ble_eq_true rfl) (by show (rc + 15) = 0 + (rc + 15); omega) (by show (rs + 2994) = 0 + (rs + 2994); omega) ?_
    rintro _ w22 (⟨hc2, rfl, hM1⟩ | ⟨z9, hc2, rfl, hM1⟩)
    · refine J_st (.int (stAt (nI N) (xs (i + 1)) pP (-1)) :: []) rfl ?_
      refine J_ws ((wOu Z ou f9 ++ w11) ++ w22) (by simp only [List.append_nil]) ?_
      refine J_istore [(6, .int (stAt (nI N) (xs (i + 1)) pP (-1))), (5, .int ((if ¬ hasB (nI N) (xs (i + 1)) = true then 1 else 0) : Int32)), (4, .int (nI i)), (0, .ref b), (1, .ref (x 0)), (2, .ref (mo 0)), (3, .ref (ou 0))] C iL_law_579 (by decide) rfl ?_
      refine J_aload_n C iL_law_581 rfl rfl ?_
      obtain ⟨fs3, hq3⟩ := hM1.head
      refine J_cVb (ci := 9) (As := []) (st := []) (rc2 := (rc + 15)) (rs2 := (rs + 2994)) (w0 := w22) C iL_law_582 lm_L_111 yc_X10_thrown yv_X10_thrown (n_X10_thrown hM1) rfl rfl hq3 (wOu Z ou f9 ++ w11) [] (by simp only [List.append_nil]) rfl ⟨Nat.le_of_ble_eq_true rfl, Nat.le_of_ble_eq_true rfl⟩ (Nat.le_of_ble_eq_true rfl) (by show (rc + 15) = 0 + (rc + 15); omega) (by show (rs + 2994) = 0 + (rs + 2994); omega) ?_
      rintro _ w23 ⟨rfl, hM2⟩
      refine J_st (.int 0 :: []) rfl ?_
      refine J_ws ((wOu Z ou f9 ++ w11) ++ w23) (by simp only [List.append_nil]) ?_
      refine J_iload C iL_law_585 rfl ?_
      refine J_icmpeq 592 C iL_law_587 rfl (fun h587 => ?_) (fun h587 => absurd hc.symm h587)
      refine J_iload C iL_law_592 rfl ?_
      refine J_ifne 609 C iL_law_594 rfl (fun h594 => absurd hc h594) (fun h594 => ?_)
      refine J_aload_n C iL_law_597 rfl rfl ?_
      refine J_iconst 0 C iL_law_598 rfl ?_
      refine J_lald 0 C iL_law_599 rfl (vp_in_nI (n := 0) (by omega) (by decide)) ?_
      rw [show Int32.toNatClampNeg 0 = 0 from rfl]
      refine J_iload C iL_law_600 rfl ?_
      refine J_i2l C iL_law_602 ?_
      refine J_lcmp C iL_law_603 ?_
      refine J_ifeqL 609 C iL_law_604 rfl (fun h604 => ?_) (fun h604 => absurd hv h604)
      refine J_goto 2021 C iL_law_609 rfl ?_
      refine J_lvm [(4, .int (nI i)), (0, .ref b), (1, .ref (x 0)), (2, .ref (mo 0)), (3, .ref (ou 0))] rfl ?_
      refine J_less rc rs (by omega) (by omega) ?_
      exact next _ ⟨f9, w11, w23, _, _, _, _, _, _, _, _, _, _, _, _, _, _, _, _, _, _, _, _, _, rfl, hC1, hM2⟩
    · exact absurd hc hc2
  · refine J_st (.int ((if ¬ hasB (nI N) (xs (i + 1)) = true then 1 else 0) : Int32) :: []) rfl ?_
    refine J_ws ((wOu Z ou f9 ++ w11) ++ w2) rfl ?_
    refine J_istore [(5, .int ((if ¬ hasB (nI N) (xs (i + 1)) = true then 1 else 0) : Int32)), (4, .int (nI i)), (0, .ref b), (1, .ref (x 0)), (2, .ref (mo 0)), (3, .ref (ou 0))] C iL_law_567 (by decide) rfl ?_
    refine J_aload_n C iL_law_569 rfl rfl ?_
    refine J_aload_n C iL_law_570 rfl rfl ?_
    refine J_iload C iL_law_571 rfl ?_
    refine J_iconst 1 C iL_law_573 rfl ?_
    refine J_iadd C iL_law_574 ?_
    rw [show (nI i) + 1 = nI (i + 1) from nI_add _ _]
    refine J_sld C S iL_law_575 (vp_in_nI (n := (i + 1)) (by omega) (by omega)) ?_
    rw [nI_clamp (n := (i + 1)) (by omega)]
    obtain ⟨fs2, hq2⟩ := hM.head
    refine J_cVb (ci := 9) (As := [.int (xs (i + 1))]) (st := []) (rc2 := (rc + 15)) (rs2 := (rs + 2994)) (w0 := w2) C iL_law_576 lm_L_159 yc_X10_placeOf yv_X10_placeOf (n_X10_placeOf hM) rfl rfl hq2 (wOu Z ou f9 ++ w11) [] (by simp only [List.append_nil]) rfl ⟨Nat.le_of_ble_eq_true rfl, Nat.le_of_ble_eq_true rfl⟩ (Nat.le_of_ble_eq_true rfl) (by show (rc + 15) = 0 + (rc + 15); omega) (by show (rs + 2994) = 0 + (rs + 2994); omega) ?_
    rintro _ w22 (⟨hc2, rfl, hM1⟩ | ⟨z9, hc2, rfl, hM1⟩)
    · exact absurd hc2 hc
    · refine J_st (.int z9 :: []) rfl ?_
      refine J_ws ((wOu Z ou f9 ++ w11) ++ w22) (by simp only [List.append_nil]) ?_
      refine J_istore [(6, .int z9), (5, .int ((if ¬ hasB (nI N) (xs (i + 1)) = true then 1 else 0) : Int32)), (4, .int (nI i)), (0, .ref b), (1, .ref (x 0)), (2, .ref (mo 0)), (3, .ref (ou 0))] C iL_law_579 (by decide) rfl ?_
      refine J_aload_n C iL_law_581 rfl rfl ?_
      obtain ⟨fs3, hq3⟩ := hM1.head
      refine J_cVb (ci := 9) (As := []) (st := []) (rc2 := (rc + 15)) (rs2 := (rs + 2994)) (w0 := w22) C iL_law_582 lm_L_111 yc_X10_thrown yv_X10_thrown (n_X10_thrown hM1) rfl rfl hq3 (wOu Z ou f9 ++ w11) [] (by simp only [List.append_nil]) rfl ⟨Nat.le_of_ble_eq_true rfl, Nat.le_of_ble_eq_true rfl⟩ (Nat.le_of_ble_eq_true rfl) (by show (rc + 15) = 0 + (rc + 15); omega) (by show (rs + 2994) = 0 + (rs + 2994); omega) ?_
      rintro _ w23 ⟨rfl, hM2⟩
      refine J_st (.int ((if ¬ hasB (nI N) (xs (i + 1)) = true then 1 else 0) : Int32) :: []) rfl ?_
      refine J_ws ((wOu Z ou f9 ++ w11) ++ w23) (by simp only [List.append_nil]) ?_
      refine J_iload C iL_law_585 rfl ?_
      refine J_icmpeq 592 C iL_law_587 rfl (fun h587 => ?_) (fun h587 => absurd rfl h587)
      refine J_iload C iL_law_592 rfl ?_
      refine J_ifne 609 C iL_law_594 rfl (fun h594 => ?_) (fun h594 => absurd h594 hc)
      refine J_goto 2021 C iL_law_609 rfl ?_
      refine J_lvm [(4, .int (nI i)), (0, .ref b), (1, .ref (x 0)), (2, .ref (mo 0)), (3, .ref (ou 0))] rfl ?_
      refine J_less rc rs (by omega) (by omega) ?_
      exact next _ ⟨f9, w11, w23, _, _, _, _, _, _, _, _, _, _, _, _, _, _, _, _, _, _, _, _, _, rfl, hC1, hM2⟩

set_option maxRecDepth 100000 in
set_option maxHeartbeats 4000000 in
/-- case 13: heightOf -/
theorem law_13 {Z : GZ} {X : CX} {Q : State → Prop} {rc rs : Nat} (C : Cx Z X cL_law 9 RL) (hV : VN (cS X)) (hl : (cL X).stackTraces = false) {b L i : Nat} {xs : Nat → Int32} (S : Sc X b L xs) (hL : L ≤ 3072) (hi : i + 6 ≤ L) {x mo ou : Nat → Nat} {f : Nat → Int64} {w1 w2 : va_W} {th : Int32} {N u tm : Nat} {er dg co : Int32} {pP pH pF pT op f1 f2 l0 tb : Nat → Int32} {hh c0 c1 c2 c3 : Nat → Nat} (hC : CI Z x N u tm er dg co pP pH pF pT op f1 f2 l0 hh c0 c1 c2 c3 tb w1) (hM : MI Z mo th N u tm er dg co pP pH pF pT op f1 f2 l0 hh c0 c1 c2 c3 tb w2) (next : ∀ w9, LI Z x mo ou w9 → Jd Z X room_1 9 Q rc rs 2021 [(4, .int (nI i)), (0, .ref b), (1, .ref (x 0)), (2, .ref (mo 0)), (3, .ref (ou 0))] [] w9) : Jd Z X room_1 9 Q (rc + 16) (rs + 3000) 612 [(4, .int (nI i)), (0, .ref b), (1, .ref (x 0)), (2, .ref (mo 0)), (3, .ref (ou 0))] [] ((wOu Z ou f ++ w1) ++ w2) := by
  refine J_aload_n C iL_law_612 rfl rfl ?_
  refine J_aload_n C iL_law_613 rfl rfl ?_
  refine J_iload C iL_law_614 rfl ?_
  refine J_iconst 1 C iL_law_616 rfl ?_
  refine J_iadd C iL_law_617 ?_
  rw [show (nI i) + 1 = nI (i + 1) from nI_add _ _]
  refine J_sld C S iL_law_618 (vp_in_nI (n := (i + 1)) (by omega) (by omega)) ?_
  rw [nI_clamp (n := (i + 1)) (by omega)]
  refine J_aload_n C iL_law_619 rfl rfl ?_
  refine J_cSL (As := [.ref (x 0), .int (xs (i + 1)), .ref (ou 0)]) (st := []) (rc2 := (rc + 15)) (rs2 := (rs + 2994)) (w0 := wOu Z ou f ++ w1) C hV iL_law_620 lm_L_160 ycw_L_heightOf ys_L_heightOf (k_heightOf hl hC) [] w2 rfl rfl ⟨Nat.le_of_ble_eq_true rfl, Nat.le_of_ble_eq_true rfl⟩ (Nat.le_of_ble_eq_true rfl) (by show (rc + 16) = 1 + (rc + 15); omega) (by show (rs + 3000) = 6 + (rs + 2994); omega) ?_
  rintro _ w10 ⟨rfl, f9, w11, rfl, ⟨hc, hv, hC1⟩ | ⟨hc, hC1⟩⟩
  · refine J_st (.int ((if ¬ hasB (nI N) (xs (i + 1)) = true then 1 else 0) : Int32) :: []) rfl ?_
    refine J_ws ((wOu Z ou f9 ++ w11) ++ w2) rfl ?_
    refine J_istore [(5, .int ((if ¬ hasB (nI N) (xs (i + 1)) = true then 1 else 0) : Int32)), (4, .int (nI i)), (0, .ref b), (1, .ref (x 0)), (2, .ref (mo 0)), (3, .ref (ou 0))] C iL_law_623 (by decide) rfl ?_
    refine J_aload_n C iL_law_625 rfl rfl ?_
    refine J_aload_n C iL_law_626 rfl rfl ?_
    refine J_iload C iL_law_627 rfl ?_
    refine J_iconst 1 C iL_law_629 rfl ?_
    refine J_iadd C iL_law_630 ?_
    rw [show (nI i) + 1 = nI (i + 1) from nI_add _ _]
    refine J_sld C S iL_law_631 (vp_in_nI (n := (i + 1)) (by omega) (by omega)) ?_
    rw [nI_clamp (n := (i + 1)) (by omega)]
    obtain ⟨fs2, hq2⟩ := hM.head
    refine J_cVb (ci := 9) (As := [.int (xs (i + 1))]) (st := []) (rc2 := (rc + 15)) (rs2 := (rs + 2994)) (w0 := w2) C iL_law_632 lm_L_162 yc_X10_heightOf yv_X10_heightOf (n_X10_heightOf hM) rfl rfl hq2 (wOu Z ou f9 ++ w11) [] (by simp only [List.append_nil]) rfl ⟨Nat.le_of_ble_eq_true rfl, Nat.le_of_ble_eq_true rfl⟩ (Nat.le_of_ble_eq_true rfl) (by show (rc + 15) = 0 + (rc + 15); omega) (by show (rs + 2994) = 0 + (rs + 2994); omega) ?_
    rintro _ w22 (⟨hc2, rfl, hM1⟩ | ⟨z9, hc2, rfl, hM1⟩)
    · refine J_st (.int (stAt (nI N) (xs (i + 1)) pH 0) :: []) rfl ?_
      refine J_ws ((wOu Z ou f9 ++ w11) ++ w22) (by simp only [List.append_nil]) ?_
      refine J_istore [(6, .int (stAt (nI N) (xs (i + 1)) pH 0)), (5, .int ((if ¬ hasB (nI N) (xs (i + 1)) = true then 1 else 0) : Int32)), (4, .int (nI i)), (0, .ref b), (1, .ref (x 0)), (2, .ref (mo 0)), (3, .ref (ou 0))] C iL_law_635 (by decide) rfl ?_
      refine J_aload_n C iL_law_637 rfl rfl ?_
      obtain ⟨fs3, hq3⟩ := hM1.head
      refine J_cVb (ci := 9) (As := []) (st := []) (rc2 := (rc + 15)) (rs2 := (rs + 2994)) (w0 := w22) C iL_law_638 lm_L_111 yc_X10_thrown yv_X10_thrown (n_X10_thrown hM1) rfl rfl hq3 (wOu Z ou f9 ++ w11) [] (by simp only [List.append_nil]) rfl ⟨Nat.le_of_ble_eq_true rfl, Nat.le_of_ble_eq_true rfl⟩ (Nat.le_of_ble_eq_true rfl) (by show (rc + 15) = 0 + (rc + 15); omega) (by show (rs + 2994) = 0 + (rs + 2994); omega) ?_
      rintro _ w23 ⟨rfl, hM2⟩
      refine J_st (.int 0 :: []) rfl ?_
      refine J_ws ((wOu Z ou f9 ++ w11) ++ w23) (by simp only [List.append_nil]) ?_
      refine J_iload C iL_law_641 rfl ?_
      refine J_icmpeq 648 C iL_law_643 rfl (fun h643 => ?_) (fun h643 => absurd hc.symm h643)
      refine J_iload C iL_law_648 rfl ?_
      refine J_ifne 665 C iL_law_650 rfl (fun h650 => absurd hc h650) (fun h650 => ?_)
      refine J_aload_n C iL_law_653 rfl rfl ?_
      refine J_iconst 0 C iL_law_654 rfl ?_
      refine J_lald 0 C iL_law_655 rfl (vp_in_nI (n := 0) (by omega) (by decide)) ?_
      rw [show Int32.toNatClampNeg 0 = 0 from rfl]
      refine J_iload C iL_law_656 rfl ?_
      refine J_i2l C iL_law_658 ?_
      refine J_lcmp C iL_law_659 ?_
      refine J_ifeqL 665 C iL_law_660 rfl (fun h660 => ?_) (fun h660 => absurd hv h660)
      refine J_goto 2021 C iL_law_665 rfl ?_
      refine J_lvm [(4, .int (nI i)), (0, .ref b), (1, .ref (x 0)), (2, .ref (mo 0)), (3, .ref (ou 0))] rfl ?_
      refine J_less rc rs (by omega) (by omega) ?_
      exact next _ ⟨f9, w11, w23, _, _, _, _, _, _, _, _, _, _, _, _, _, _, _, _, _, _, _, _, _, rfl, hC1, hM2⟩
    · exact absurd hc hc2
  · refine J_st (.int ((if ¬ hasB (nI N) (xs (i + 1)) = true then 1 else 0) : Int32) :: []) rfl ?_
    refine J_ws ((wOu Z ou f9 ++ w11) ++ w2) rfl ?_
    refine J_istore [(5, .int ((if ¬ hasB (nI N) (xs (i + 1)) = true then 1 else 0) : Int32)), (4, .int (nI i)), (0, .ref b), (1, .ref (x 0)), (2, .ref (mo 0)), (3, .ref (ou 0))] C iL_law_623 (by decide) rfl ?_
    refine J_aload_n C iL_law_625 rfl rfl ?_
    refine J_aload_n C iL_law_626 rfl rfl ?_
    refine J_iload C iL_law_627 rfl ?_
    refine J_iconst 1 C iL_law_629 rfl ?_
    refine J_iadd C iL_law_630 ?_
    rw [show (nI i) + 1 = nI (i + 1) from nI_add _ _]
    refine J_sld C S iL_law_631 (vp_in_nI (n := (i + 1)) (by omega) (by omega)) ?_
    rw [nI_clamp (n := (i + 1)) (by omega)]
    obtain ⟨fs2, hq2⟩ := hM.head
    refine J_cVb (ci := 9) (As := [.int (xs (i + 1))]) (st := []) (rc2 := (rc + 15)) (rs2 := (rs + 2994)) (w0 := w2) C iL_law_632 lm_L_162 yc_X10_heightOf yv_X10_heightOf (n_X10_heightOf hM) rfl rfl hq2 (wOu Z ou f9 ++ w11) [] (by simp only [List.append_nil]) rfl ⟨Nat.le_of_ble_eq_true rfl, Nat.le_of_ble_eq_true rfl⟩ (Nat.le_of_ble_eq_true rfl) (by show (rc + 15) = 0 + (rc + 15); omega) (by show (rs + 2994) = 0 + (rs + 2994); omega) ?_
    rintro _ w22 (⟨hc2, rfl, hM1⟩ | ⟨z9, hc2, rfl, hM1⟩)
    · exact absurd hc2 hc
    · refine J_st (.int z9 :: []) rfl ?_
      refine J_ws ((wOu Z ou f9 ++ w11) ++ w22) (by simp only [List.append_nil]) ?_
      refine J_istore [(6, .int z9), (5, .int ((if ¬ hasB (nI N) (xs (i + 1)) = true then 1 else 0) : Int32)), (4, .int (nI i)), (0, .ref b), (1, .ref (x 0)), (2, .ref (mo 0)), (3, .ref (ou 0))] C iL_law_635 (by decide) rfl ?_
      refine J_aload_n C iL_law_637 rfl rfl ?_
      obtain ⟨fs3, hq3⟩ := hM1.head
      refine J_cVb (ci := 9) (As := []) (st := []) (rc2 := (rc + 15)) (rs2 := (rs + 2994)) (w0 := w22) C iL_law_638 lm_L_111 yc_X10_thrown yv_X10_thrown (n_X10_thrown hM1) rfl rfl hq3 (wOu Z ou f9 ++ w11) [] (by simp only [List.append_nil]) rfl ⟨Nat.le_of_ble_eq_true rfl, Nat.le_of_ble_eq_true rfl⟩ (Nat.le_of_ble_eq_true rfl) (by show (rc + 15) = 0 + (rc + 15); omega) (by show (rs + 2994) = 0 + (rs + 2994); omega) ?_
      rintro _ w23 ⟨rfl, hM2⟩
      refine J_st (.int ((if ¬ hasB (nI N) (xs (i + 1)) = true then 1 else 0) : Int32) :: []) rfl ?_
      refine J_ws ((wOu Z ou f9 ++ w11) ++ w23) (by simp only [List.append_nil]) ?_
      refine J_iload C iL_law_641 rfl ?_
      refine J_icmpeq 648 C iL_law_643 rfl (fun h643 => ?_) (fun h643 => absurd rfl h643)
      refine J_iload C iL_law_648 rfl ?_
      refine J_ifne 665 C iL_law_650 rfl (fun h650 => ?_) (fun h650 => absurd h650 hc)
      refine J_goto 2021 C iL_law_665 rfl ?_
      refine J_lvm [(4, .int (nI i)), (0, .ref b), (1, .ref (x 0)), (2, .ref (mo 0)), (3, .ref (ou 0))] rfl ?_
      refine J_less rc rs (by omega) (by omega) ?_
      exact next _ ⟨f9, w11, w23, _, _, _, _, _, _, _, _, _, _, _, _, _, _, _, _, _, _, _, _, _, rfl, hC1, hM2⟩

set_option maxRecDepth 100000 in
set_option maxHeartbeats 4000000 in
/-- case 14: hoursLost -/
theorem law_14 {Z : GZ} {X : CX} {Q : State → Prop} {rc rs : Nat} (C : Cx Z X cL_law 9 RL) (hV : VN (cS X)) (hl : (cL X).stackTraces = false) {b L i : Nat} {xs : Nat → Int32} (S : Sc X b L xs) (hL : L ≤ 3072) (hi : i + 6 ≤ L) {x mo ou : Nat → Nat} {f : Nat → Int64} {w1 w2 : va_W} {th : Int32} {N u tm : Nat} {er dg co : Int32} {pP pH pF pT op f1 f2 l0 tb : Nat → Int32} {hh c0 c1 c2 c3 : Nat → Nat} (hC : CI Z x N u tm er dg co pP pH pF pT op f1 f2 l0 hh c0 c1 c2 c3 tb w1) (hM : MI Z mo th N u tm er dg co pP pH pF pT op f1 f2 l0 hh c0 c1 c2 c3 tb w2) (next : ∀ w9, LI Z x mo ou w9 → Jd Z X room_1 9 Q rc rs 2021 [(4, .int (nI i)), (0, .ref b), (1, .ref (x 0)), (2, .ref (mo 0)), (3, .ref (ou 0))] [] w9) : Jd Z X room_1 9 Q (rc + 16) (rs + 3000) 668 [(4, .int (nI i)), (0, .ref b), (1, .ref (x 0)), (2, .ref (mo 0)), (3, .ref (ou 0))] [] ((wOu Z ou f ++ w1) ++ w2) := by
  refine J_aload_n C iL_law_668 rfl rfl ?_
  refine J_aload_n C iL_law_669 rfl rfl ?_
  refine J_iload C iL_law_670 rfl ?_
  refine J_iconst 1 C iL_law_672 rfl ?_
  refine J_iadd C iL_law_673 ?_
  rw [show (nI i) + 1 = nI (i + 1) from nI_add _ _]
  refine J_sld C S iL_law_674 (vp_in_nI (n := (i + 1)) (by omega) (by omega)) ?_
  rw [nI_clamp (n := (i + 1)) (by omega)]
  refine J_aload_n C iL_law_675 rfl rfl ?_
  refine J_cSL (As := [.ref (x 0), .int (xs (i + 1)), .ref (ou 0)]) (st := []) (rc2 := (rc + 15)) (rs2 := (rs + 2994)) (w0 := wOu Z ou f ++ w1) C hV iL_law_676 lm_L_163 ycw_L_hoursLost ys_L_hoursLost (k_hoursLost hl hC) [] w2 rfl rfl ⟨Nat.le_of_ble_eq_true rfl, Nat.le_of_ble_eq_true rfl⟩ (Nat.le_of_ble_eq_true rfl) (by show (rc + 16) = 1 + (rc + 15); omega) (by show (rs + 3000) = 6 + (rs + 2994); omega) ?_
  rintro _ w10 ⟨rfl, f9, w11, rfl, ⟨hc, hv, hC1⟩ | ⟨hc, hC1⟩⟩
  · refine J_st (.int ((if ¬ hasB (nI N) (xs (i + 1)) = true then 1 else 0) : Int32) :: []) rfl ?_
    refine J_ws ((wOu Z ou f9 ++ w11) ++ w2) rfl ?_
    refine J_istore [(5, .int ((if ¬ hasB (nI N) (xs (i + 1)) = true then 1 else 0) : Int32)), (4, .int (nI i)), (0, .ref b), (1, .ref (x 0)), (2, .ref (mo 0)), (3, .ref (ou 0))] C iL_law_679 (by decide) rfl ?_
    refine J_aload_n C iL_law_681 rfl rfl ?_
    refine J_aload_n C iL_law_682 rfl rfl ?_
    refine J_iload C iL_law_683 rfl ?_
    refine J_iconst 1 C iL_law_685 rfl ?_
    refine J_iadd C iL_law_686 ?_
    rw [show (nI i) + 1 = nI (i + 1) from nI_add _ _]
    refine J_sld C S iL_law_687 (vp_in_nI (n := (i + 1)) (by omega) (by omega)) ?_
    rw [nI_clamp (n := (i + 1)) (by omega)]
    obtain ⟨fs2, hq2⟩ := hM.head
    refine J_cVb (ci := 9) (As := [.int (xs (i + 1))]) (st := []) (rc2 := (rc + 15)) (rs2 := (rs + 2994)) (w0 := w2) C iL_law_688 lm_L_165 yc_X10_hoursLost yv_X10_hoursLost (n_X10_hoursLost hM) rfl rfl hq2 (wOu Z ou f9 ++ w11) [] (by simp only [List.append_nil]) rfl ⟨Nat.le_of_ble_eq_true rfl, Nat.le_of_ble_eq_true rfl⟩ (Nat.le_of_ble_eq_true rfl) (by show (rc + 15) = 0 + (rc + 15); omega) (by show (rs + 2994) = 0 + (rs + 2994); omega) ?_
    rintro _ w22 (⟨hc2, rfl, hM1⟩ | ⟨z9, hc2, rfl, hM1⟩)
    · refine J_st (.int (bitC (stAt (nI N) (xs (i + 1)) (dkG N pP pH pF pT) 0)) :: []) rfl ?_
      refine J_ws ((wOu Z ou f9 ++ w11) ++ w22) (by simp only [List.append_nil]) ?_
      refine J_istore [(6, .int (bitC (stAt (nI N) (xs (i + 1)) (dkG N pP pH pF pT) 0))), (5, .int ((if ¬ hasB (nI N) (xs (i + 1)) = true then 1 else 0) : Int32)), (4, .int (nI i)), (0, .ref b), (1, .ref (x 0)), (2, .ref (mo 0)), (3, .ref (ou 0))] C iL_law_691 (by decide) rfl ?_
      refine J_aload_n C iL_law_693 rfl rfl ?_
      obtain ⟨fs3, hq3⟩ := hM1.head
      refine J_cVb (ci := 9) (As := []) (st := []) (rc2 := (rc + 15)) (rs2 := (rs + 2994)) (w0 := w22) C iL_law_694 lm_L_111 yc_X10_thrown yv_X10_thrown (n_X10_thrown hM1) rfl rfl hq3 (wOu Z ou f9 ++ w11) [] (by simp only [List.append_nil]) rfl ⟨Nat.le_of_ble_eq_true rfl, Nat.le_of_ble_eq_true rfl⟩ (Nat.le_of_ble_eq_true rfl) (by show (rc + 15) = 0 + (rc + 15); omega) (by show (rs + 2994) = 0 + (rs + 2994); omega) ?_
      rintro _ w23 ⟨rfl, hM2⟩
      refine J_st (.int 0 :: []) rfl ?_
      refine J_ws ((wOu Z ou f9 ++ w11) ++ w23) (by simp only [List.append_nil]) ?_
      refine J_iload C iL_law_697 rfl ?_
      refine J_icmpeq 704 C iL_law_699 rfl (fun h699 => ?_) (fun h699 => absurd hc.symm h699)
      refine J_iload C iL_law_704 rfl ?_
      refine J_ifne 721 C iL_law_706 rfl (fun h706 => absurd hc h706) (fun h706 => ?_)
      refine J_aload_n C iL_law_709 rfl rfl ?_
      refine J_iconst 0 C iL_law_710 rfl ?_
      refine J_lald 0 C iL_law_711 rfl (vp_in_nI (n := 0) (by omega) (by decide)) ?_
      rw [show Int32.toNatClampNeg 0 = 0 from rfl]
      refine J_iload C iL_law_712 rfl ?_
      refine J_i2l C iL_law_714 ?_
      refine J_lcmp C iL_law_715 ?_
      refine J_ifeqL 721 C iL_law_716 rfl (fun h716 => ?_) (fun h716 => absurd hv h716)
      refine J_goto 2021 C iL_law_721 rfl ?_
      refine J_lvm [(4, .int (nI i)), (0, .ref b), (1, .ref (x 0)), (2, .ref (mo 0)), (3, .ref (ou 0))] rfl ?_
      refine J_less rc rs (by omega) (by omega) ?_
      exact next _ ⟨f9, w11, w23, _, _, _, _, _, _, _, _, _, _, _, _, _, _, _, _, _, _, _, _, _, rfl, hC1, hM2⟩
    · exact absurd hc hc2
  · refine J_st (.int ((if ¬ hasB (nI N) (xs (i + 1)) = true then 1 else 0) : Int32) :: []) rfl ?_
    refine J_ws ((wOu Z ou f9 ++ w11) ++ w2) rfl ?_
    refine J_istore [(5, .int ((if ¬ hasB (nI N) (xs (i + 1)) = true then 1 else 0) : Int32)), (4, .int (nI i)), (0, .ref b), (1, .ref (x 0)), (2, .ref (mo 0)), (3, .ref (ou 0))] C iL_law_679 (by decide) rfl ?_
    refine J_aload_n C iL_law_681 rfl rfl ?_
    refine J_aload_n C iL_law_682 rfl rfl ?_
    refine J_iload C iL_law_683 rfl ?_
    refine J_iconst 1 C iL_law_685 rfl ?_
    refine J_iadd C iL_law_686 ?_
    rw [show (nI i) + 1 = nI (i + 1) from nI_add _ _]
    refine J_sld C S iL_law_687 (vp_in_nI (n := (i + 1)) (by omega) (by omega)) ?_
    rw [nI_clamp (n := (i + 1)) (by omega)]
    obtain ⟨fs2, hq2⟩ := hM.head
    refine J_cVb (ci := 9) (As := [.int (xs (i + 1))]) (st := []) (rc2 := (rc + 15)) (rs2 := (rs + 2994)) (w0 := w2) C iL_law_688 lm_L_165 yc_X10_hoursLost yv_X10_hoursLost (n_X10_hoursLost hM) rfl rfl hq2 (wOu Z ou f9 ++ w11) [] (by simp only [List.append_nil]) rfl ⟨Nat.le_of_ble_eq_true rfl, Nat.le_of_ble_eq_true rfl⟩ (Nat.le_of_ble_eq_true rfl) (by show (rc + 15) = 0 + (rc + 15); omega) (by show (rs + 2994) = 0 + (rs + 2994); omega) ?_
    rintro _ w22 (⟨hc2, rfl, hM1⟩ | ⟨z9, hc2, rfl, hM1⟩)
    · exact absurd hc2 hc
    · refine J_st (.int z9 :: []) rfl ?_
      refine J_ws ((wOu Z ou f9 ++ w11) ++ w22) (by simp only [List.append_nil]) ?_
      refine J_istore [(6, .int z9), (5, .int ((if ¬ hasB (nI N) (xs (i + 1)) = true then 1 else 0) : Int32)), (4, .int (nI i)), (0, .ref b), (1, .ref (x 0)), (2, .ref (mo 0)), (3, .ref (ou 0))] C iL_law_691 (by decide) rfl ?_
      refine J_aload_n C iL_law_693 rfl rfl ?_
      obtain ⟨fs3, hq3⟩ := hM1.head
      refine J_cVb (ci := 9) (As := []) (st := []) (rc2 := (rc + 15)) (rs2 := (rs + 2994)) (w0 := w22) C iL_law_694 lm_L_111 yc_X10_thrown yv_X10_thrown (n_X10_thrown hM1) rfl rfl hq3 (wOu Z ou f9 ++ w11) [] (by simp only [List.append_nil]) rfl ⟨Nat.le_of_ble_eq_true rfl, Nat.le_of_ble_eq_true rfl⟩ (Nat.le_of_ble_eq_true rfl) (by show (rc + 15) = 0 + (rc + 15); omega) (by show (rs + 2994) = 0 + (rs + 2994); omega) ?_
      rintro _ w23 ⟨rfl, hM2⟩
      refine J_st (.int ((if ¬ hasB (nI N) (xs (i + 1)) = true then 1 else 0) : Int32) :: []) rfl ?_
      refine J_ws ((wOu Z ou f9 ++ w11) ++ w23) (by simp only [List.append_nil]) ?_
      refine J_iload C iL_law_697 rfl ?_
      refine J_icmpeq 704 C iL_law_699 rfl (fun h699 => ?_) (fun h699 => absurd rfl h699)
      refine J_iload C iL_law_704 rfl ?_
      refine J_ifne 721 C iL_law_706 rfl (fun h706 => ?_) (fun h706 => absurd h706 hc)
      refine J_goto 2021 C iL_law_721 rfl ?_
      refine J_lvm [(4, .int (nI i)), (0, .ref b), (1, .ref (x 0)), (2, .ref (mo 0)), (3, .ref (ou 0))] rfl ?_
      refine J_less rc rs (by omega) (by omega) ?_
      exact next _ ⟨f9, w11, w23, _, _, _, _, _, _, _, _, _, _, _, _, _, _, _, _, _, _, _, _, _, rfl, hC1, hM2⟩

set_option maxRecDepth 100000 in
set_option maxHeartbeats 4000000 in
/-- case 15: castBy -/
theorem law_15 {Z : GZ} {X : CX} {Q : State → Prop} {rc rs : Nat} (C : Cx Z X cL_law 9 RL) (hV : VN (cS X)) (hl : (cL X).stackTraces = false) {b L i : Nat} {xs : Nat → Int32} (S : Sc X b L xs) (hL : L ≤ 3072) (hi : i + 6 ≤ L) {x mo ou : Nat → Nat} {f : Nat → Int64} {w1 w2 : va_W} {th : Int32} {N u tm : Nat} {er dg co : Int32} {pP pH pF pT op f1 f2 l0 tb : Nat → Int32} {hh c0 c1 c2 c3 : Nat → Nat} (hC : CI Z x N u tm er dg co pP pH pF pT op f1 f2 l0 hh c0 c1 c2 c3 tb w1) (hM : MI Z mo th N u tm er dg co pP pH pF pT op f1 f2 l0 hh c0 c1 c2 c3 tb w2) (next : ∀ w9, LI Z x mo ou w9 → Jd Z X room_1 9 Q rc rs 2021 [(4, .int (nI i)), (0, .ref b), (1, .ref (x 0)), (2, .ref (mo 0)), (3, .ref (ou 0))] [] w9) : Jd Z X room_1 9 Q (rc + 16) (rs + 3000) 724 [(4, .int (nI i)), (0, .ref b), (1, .ref (x 0)), (2, .ref (mo 0)), (3, .ref (ou 0))] [] ((wOu Z ou f ++ w1) ++ w2) := by
  refine J_aload_n C iL_law_724 rfl rfl ?_
  refine J_aload_n C iL_law_725 rfl rfl ?_
  refine J_iload C iL_law_726 rfl ?_
  refine J_iconst 1 C iL_law_728 rfl ?_
  refine J_iadd C iL_law_729 ?_
  rw [show (nI i) + 1 = nI (i + 1) from nI_add _ _]
  refine J_sld C S iL_law_730 (vp_in_nI (n := (i + 1)) (by omega) (by omega)) ?_
  rw [nI_clamp (n := (i + 1)) (by omega)]
  refine J_aload_n C iL_law_731 rfl rfl ?_
  refine J_cSL (As := [.ref (x 0), .int (xs (i + 1)), .ref (ou 0)]) (st := []) (rc2 := (rc + 15)) (rs2 := (rs + 2994)) (w0 := wOu Z ou f ++ w1) C hV iL_law_732 lm_L_166 ycw_L_castBy ys_L_castBy (k_castBy hl hC) [] w2 rfl rfl ⟨Nat.le_of_ble_eq_true rfl, Nat.le_of_ble_eq_true rfl⟩ (Nat.le_of_ble_eq_true rfl) (by show (rc + 16) = 1 + (rc + 15); omega) (by show (rs + 3000) = 6 + (rs + 2994); omega) ?_
  rintro _ w10 ⟨rfl, f9, w11, rfl, ⟨hc, hv, hC1⟩ | ⟨hc, hC1⟩⟩
  · refine J_st (.int ((if ¬ hasB (nI N) (xs (i + 1)) = true then 1 else 0) : Int32) :: []) rfl ?_
    refine J_ws ((wOu Z ou f9 ++ w11) ++ w2) rfl ?_
    refine J_istore [(5, .int ((if ¬ hasB (nI N) (xs (i + 1)) = true then 1 else 0) : Int32)), (4, .int (nI i)), (0, .ref b), (1, .ref (x 0)), (2, .ref (mo 0)), (3, .ref (ou 0))] C iL_law_735 (by decide) rfl ?_
    refine J_aload_n C iL_law_737 rfl rfl ?_
    refine J_aload_n C iL_law_738 rfl rfl ?_
    refine J_iload C iL_law_739 rfl ?_
    refine J_iconst 1 C iL_law_741 rfl ?_
    refine J_iadd C iL_law_742 ?_
    rw [show (nI i) + 1 = nI (i + 1) from nI_add _ _]
    refine J_sld C S iL_law_743 (vp_in_nI (n := (i + 1)) (by omega) (by omega)) ?_
    rw [nI_clamp (n := (i + 1)) (by omega)]
    obtain ⟨fs2, hq2⟩ := hM.head
    refine J_cVb (ci := 9) (As := [.int (xs (i + 1))]) (st := []) (rc2 := (rc + 15)) (rs2 := (rs + 2994)) (w0 := w2) C iL_law_744 lm_L_168 yc_X10_castBy yv_X10_castBy (n_X10_castBy hM) rfl rfl hq2 (wOu Z ou f9 ++ w11) [] (by simp only [List.append_nil]) rfl ⟨Nat.le_of_ble_eq_true rfl, Nat.le_of_ble_eq_true rfl⟩ (Nat.le_of_ble_eq_true rfl) (by show (rc + 15) = 0 + (rc + 15); omega) (by show (rs + 2994) = 0 + (rs + 2994); omega) ?_
    rintro _ w22 (⟨hc2, rfl, hM1⟩ | ⟨z9, hc2, rfl, hM1⟩)
    · refine J_st (.int (stAt (nI N) (xs (i + 1)) (csG N pP pH pF pT) 0) :: []) rfl ?_
      refine J_ws ((wOu Z ou f9 ++ w11) ++ w22) (by simp only [List.append_nil]) ?_
      refine J_istore [(6, .int (stAt (nI N) (xs (i + 1)) (csG N pP pH pF pT) 0)), (5, .int ((if ¬ hasB (nI N) (xs (i + 1)) = true then 1 else 0) : Int32)), (4, .int (nI i)), (0, .ref b), (1, .ref (x 0)), (2, .ref (mo 0)), (3, .ref (ou 0))] C iL_law_747 (by decide) rfl ?_
      refine J_aload_n C iL_law_749 rfl rfl ?_
      obtain ⟨fs3, hq3⟩ := hM1.head
      refine J_cVb (ci := 9) (As := []) (st := []) (rc2 := (rc + 15)) (rs2 := (rs + 2994)) (w0 := w22) C iL_law_750 lm_L_111 yc_X10_thrown yv_X10_thrown (n_X10_thrown hM1) rfl rfl hq3 (wOu Z ou f9 ++ w11) [] (by simp only [List.append_nil]) rfl ⟨Nat.le_of_ble_eq_true rfl, Nat.le_of_ble_eq_true rfl⟩ (Nat.le_of_ble_eq_true rfl) (by show (rc + 15) = 0 + (rc + 15); omega) (by show (rs + 2994) = 0 + (rs + 2994); omega) ?_
      rintro _ w23 ⟨rfl, hM2⟩
      refine J_st (.int 0 :: []) rfl ?_
      refine J_ws ((wOu Z ou f9 ++ w11) ++ w23) (by simp only [List.append_nil]) ?_
      refine J_iload C iL_law_753 rfl ?_
      refine J_icmpeq 760 C iL_law_755 rfl (fun h755 => ?_) (fun h755 => absurd hc.symm h755)
      refine J_iload C iL_law_760 rfl ?_
      refine J_ifne 777 C iL_law_762 rfl (fun h762 => absurd hc h762) (fun h762 => ?_)
      refine J_aload_n C iL_law_765 rfl rfl ?_
      refine J_iconst 0 C iL_law_766 rfl ?_
      refine J_lald 0 C iL_law_767 rfl (vp_in_nI (n := 0) (by omega) (by decide)) ?_
      rw [show Int32.toNatClampNeg 0 = 0 from rfl]
      refine J_iload C iL_law_768 rfl ?_
      refine J_i2l C iL_law_770 ?_
      refine J_lcmp C iL_law_771 ?_
      refine J_ifeqL 777 C iL_law_772 rfl (fun h772 => ?_) (fun h772 => absurd hv h772)
      refine J_goto 2021 C iL_law_777 rfl ?_
      refine J_lvm [(4, .int (nI i)), (0, .ref b), (1, .ref (x 0)), (2, .ref (mo 0)), (3, .ref (ou 0))] rfl ?_
      refine J_less rc rs (by omega) (by omega) ?_
      exact next _ ⟨f9, w11, w23, _, _, _, _, _, _, _, _, _, _, _, _, _, _, _, _, _, _, _, _, _, rfl, hC1, hM2⟩
    · exact absurd hc hc2
  · refine J_st (.int ((if ¬ hasB (nI N) (xs (i + 1)) = true then 1 else 0) : Int32) :: []) rfl ?_
    refine J_ws ((wOu Z ou f9 ++ w11) ++ w2) rfl ?_
    refine J_istore [(5, .int ((if ¬ hasB (nI N) (xs (i + 1)) = true then 1 else 0) : Int32)), (4, .int (nI i)), (0, .ref b), (1, .ref (x 0)), (2, .ref (mo 0)), (3, .ref (ou 0))] C iL_law_735 (by decide) rfl ?_
    refine J_aload_n C iL_law_737 rfl rfl ?_
    refine J_aload_n C iL_law_738 rfl rfl ?_
    refine J_iload C iL_law_739 rfl ?_
    refine J_iconst 1 C iL_law_741 rfl ?_
    refine J_iadd C iL_law_742 ?_
    rw [show (nI i) + 1 = nI (i + 1) from nI_add _ _]
    refine J_sld C S iL_law_743 (vp_in_nI (n := (i + 1)) (by omega) (by omega)) ?_
    rw [nI_clamp (n := (i + 1)) (by omega)]
    obtain ⟨fs2, hq2⟩ := hM.head
    refine J_cVb (ci := 9) (As := [.int (xs (i + 1))]) (st := []) (rc2 := (rc + 15)) (rs2 := (rs + 2994)) (w0 := w2) C iL_law_744 lm_L_168 yc_X10_castBy yv_X10_castBy (n_X10_castBy hM) rfl rfl hq2 (wOu Z ou f9 ++ w11) [] (by simp only [List.append_nil]) rfl ⟨Nat.le_of_ble_eq_true rfl, Nat.le_of_ble_eq_true rfl⟩ (Nat.le_of_ble_eq_true rfl) (by show (rc + 15) = 0 + (rc + 15); omega) (by show (rs + 2994) = 0 + (rs + 2994); omega) ?_
    rintro _ w22 (⟨hc2, rfl, hM1⟩ | ⟨z9, hc2, rfl, hM1⟩)
    · exact absurd hc2 hc
    · refine J_st (.int z9 :: []) rfl ?_
      refine J_ws ((wOu Z ou f9 ++ w11) ++ w22) (by simp only [List.append_nil]) ?_
      refine J_istore [(6, .int z9), (5, .int ((if ¬ hasB (nI N) (xs (i + 1)) = true then 1 else 0) : Int32)), (4, .int (nI i)), (0, .ref b), (1, .ref (x 0)), (2, .ref (mo 0)), (3, .ref (ou 0))] C iL_law_747 (by decide) rfl ?_
      refine J_aload_n C iL_law_749 rfl rfl ?_
      obtain ⟨fs3, hq3⟩ := hM1.head
      refine J_cVb (ci := 9) (As := []) (st := []) (rc2 := (rc + 15)) (rs2 := (rs + 2994)) (w0 := w22) C iL_law_750 lm_L_111 yc_X10_thrown yv_X10_thrown (n_X10_thrown hM1) rfl rfl hq3 (wOu Z ou f9 ++ w11) [] (by simp only [List.append_nil]) rfl ⟨Nat.le_of_ble_eq_true rfl, Nat.le_of_ble_eq_true rfl⟩ (Nat.le_of_ble_eq_true rfl) (by show (rc + 15) = 0 + (rc + 15); omega) (by show (rs + 2994) = 0 + (rs + 2994); omega) ?_
      rintro _ w23 ⟨rfl, hM2⟩
      refine J_st (.int ((if ¬ hasB (nI N) (xs (i + 1)) = true then 1 else 0) : Int32) :: []) rfl ?_
      refine J_ws ((wOu Z ou f9 ++ w11) ++ w23) (by simp only [List.append_nil]) ?_
      refine J_iload C iL_law_753 rfl ?_
      refine J_icmpeq 760 C iL_law_755 rfl (fun h755 => ?_) (fun h755 => absurd rfl h755)
      refine J_iload C iL_law_760 rfl ?_
      refine J_ifne 777 C iL_law_762 rfl (fun h762 => ?_) (fun h762 => absurd h762 hc)
      refine J_goto 2021 C iL_law_777 rfl ?_
      refine J_lvm [(4, .int (nI i)), (0, .ref b), (1, .ref (x 0)), (2, .ref (mo 0)), (3, .ref (ou 0))] rfl ?_
      refine J_less rc rs (by omega) (by omega) ?_
      exact next _ ⟨f9, w11, w23, _, _, _, _, _, _, _, _, _, _, _, _, _, _, _, _, _, _, _, _, _, rfl, hC1, hM2⟩

set_option maxRecDepth 100000 in
set_option maxHeartbeats 4000000 in
/-- case 16: hasCurfew -/
theorem law_16 {Z : GZ} {X : CX} {Q : State → Prop} {rc rs : Nat} (C : Cx Z X cL_law 9 RL) (hV : VN (cS X)) (hl : (cL X).stackTraces = false) {b L i : Nat} {xs : Nat → Int32} (S : Sc X b L xs) (hL : L ≤ 3072) (hi : i + 6 ≤ L) {x mo ou : Nat → Nat} {f : Nat → Int64} {w1 w2 : va_W} {th : Int32} {N u tm : Nat} {er dg co : Int32} {pP pH pF pT op f1 f2 l0 tb : Nat → Int32} {hh c0 c1 c2 c3 : Nat → Nat} (hC : CI Z x N u tm er dg co pP pH pF pT op f1 f2 l0 hh c0 c1 c2 c3 tb w1) (hM : MI Z mo th N u tm er dg co pP pH pF pT op f1 f2 l0 hh c0 c1 c2 c3 tb w2) (next : ∀ w9, LI Z x mo ou w9 → Jd Z X room_1 9 Q rc rs 2021 [(4, .int (nI i)), (0, .ref b), (1, .ref (x 0)), (2, .ref (mo 0)), (3, .ref (ou 0))] [] w9) : Jd Z X room_1 9 Q (rc + 16) (rs + 3000) 780 [(4, .int (nI i)), (0, .ref b), (1, .ref (x 0)), (2, .ref (mo 0)), (3, .ref (ou 0))] [] ((wOu Z ou f ++ w1) ++ w2) := by
  refine J_aload_n C iL_law_780 rfl rfl ?_
  refine J_aload_n C iL_law_781 rfl rfl ?_
  refine J_iload C iL_law_782 rfl ?_
  refine J_iconst 1 C iL_law_784 rfl ?_
  refine J_iadd C iL_law_785 ?_
  rw [show (nI i) + 1 = nI (i + 1) from nI_add _ _]
  refine J_sld C S iL_law_786 (vp_in_nI (n := (i + 1)) (by omega) (by omega)) ?_
  rw [nI_clamp (n := (i + 1)) (by omega)]
  refine J_aload_n C iL_law_787 rfl rfl ?_
  refine J_cSL (As := [.ref (x 0), .int (xs (i + 1)), .ref (ou 0)]) (st := []) (rc2 := (rc + 15)) (rs2 := (rs + 2994)) (w0 := wOu Z ou f ++ w1) C hV iL_law_788 lm_L_169 ycw_L_hasCurfew ys_L_hasCurfew (k_hasCurfew hl hC) [] w2 rfl rfl ⟨Nat.le_of_ble_eq_true rfl, Nat.le_of_ble_eq_true rfl⟩ (Nat.le_of_ble_eq_true rfl) (by show (rc + 16) = 1 + (rc + 15); omega) (by show (rs + 3000) = 6 + (rs + 2994); omega) ?_
  rintro _ w10 ⟨rfl, f9, w11, rfl, ⟨hc, hv, hC1⟩ | ⟨hc, hC1⟩⟩
  · refine J_st (.int ((if ¬ hasB (nI N) (xs (i + 1)) = true then 1 else 0) : Int32) :: []) rfl ?_
    refine J_ws ((wOu Z ou f9 ++ w11) ++ w2) rfl ?_
    refine J_istore [(5, .int ((if ¬ hasB (nI N) (xs (i + 1)) = true then 1 else 0) : Int32)), (4, .int (nI i)), (0, .ref b), (1, .ref (x 0)), (2, .ref (mo 0)), (3, .ref (ou 0))] C iL_law_791 (by decide) rfl ?_
    refine J_aload_n C iL_law_793 rfl rfl ?_
    refine J_aload_n C iL_law_794 rfl rfl ?_
    refine J_iload C iL_law_795 rfl ?_
    refine J_iconst 1 C iL_law_797 rfl ?_
    refine J_iadd C iL_law_798 ?_
    rw [show (nI i) + 1 = nI (i + 1) from nI_add _ _]
    refine J_sld C S iL_law_799 (vp_in_nI (n := (i + 1)) (by omega) (by omega)) ?_
    rw [nI_clamp (n := (i + 1)) (by omega)]
    obtain ⟨fs2, hq2⟩ := hM.head
    refine J_cVb (ci := 9) (As := [.int (xs (i + 1))]) (st := []) (rc2 := (rc + 15)) (rs2 := (rs + 2994)) (w0 := w2) C iL_law_800 lm_L_171 yc_X10_hasCurfew yv_X10_hasCurfew (n_X10_hasCurfew hM) rfl rfl hq2 (wOu Z ou f9 ++ w11) [] (by simp only [List.append_nil]) rfl ⟨Nat.le_of_ble_eq_true rfl, Nat.le_of_ble_eq_true rfl⟩ (Nat.le_of_ble_eq_true rfl) (by show (rc + 15) = 0 + (rc + 15); omega) (by show (rs + 2994) = 0 + (rs + 2994); omega) ?_
    rintro _ w22 (⟨hc2, rfl, hM1⟩ | ⟨z9, hc2, rfl, hM1⟩)
    · refine J_st (.int (b2i (!decide (stAt (nI N) (xs (i + 1)) pF (-1) = -1))) :: []) rfl ?_
      refine J_ws ((wOu Z ou f9 ++ w11) ++ w22) (by simp only [List.append_nil]) ?_
      refine J_istore [(6, .int (b2i (!decide (stAt (nI N) (xs (i + 1)) pF (-1) = -1)))), (5, .int ((if ¬ hasB (nI N) (xs (i + 1)) = true then 1 else 0) : Int32)), (4, .int (nI i)), (0, .ref b), (1, .ref (x 0)), (2, .ref (mo 0)), (3, .ref (ou 0))] C iL_law_803 (by decide) rfl ?_
      refine J_aload_n C iL_law_805 rfl rfl ?_
      obtain ⟨fs3, hq3⟩ := hM1.head
      refine J_cVb (ci := 9) (As := []) (st := []) (rc2 := (rc + 15)) (rs2 := (rs + 2994)) (w0 := w22) C iL_law_806 lm_L_111 yc_X10_thrown yv_X10_thrown (n_X10_thrown hM1) rfl rfl hq3 (wOu Z ou f9 ++ w11) [] (by simp only [List.append_nil]) rfl ⟨Nat.le_of_ble_eq_true rfl, Nat.le_of_ble_eq_true rfl⟩ (Nat.le_of_ble_eq_true rfl) (by show (rc + 15) = 0 + (rc + 15); omega) (by show (rs + 2994) = 0 + (rs + 2994); omega) ?_
      rintro _ w23 ⟨rfl, hM2⟩
      refine J_st (.int 0 :: []) rfl ?_
      refine J_ws ((wOu Z ou f9 ++ w11) ++ w23) (by simp only [List.append_nil]) ?_
      refine J_iload C iL_law_809 rfl ?_
      refine J_icmpeq 816 C iL_law_811 rfl (fun h811 => ?_) (fun h811 => absurd hc.symm h811)
      refine J_iload C iL_law_816 rfl ?_
      refine J_ifne 840 C iL_law_818 rfl (fun h818 => absurd hc h818) (fun h818 => ?_)
      refine J_aload_n C iL_law_821 rfl rfl ?_
      refine J_iconst 0 C iL_law_822 rfl ?_
      refine J_lald 0 C iL_law_823 rfl (vp_in_nI (n := 0) (by omega) (by decide)) ?_
      rw [show Int32.toNatClampNeg 0 = 0 from rfl]
      refine J_iload C iL_law_824 rfl ?_
      refine J_ifeqb 833 C iL_law_826 rfl (fun h826 => ?_) (fun h826 => ?_)
      · refine J_lconst 0 C iL_law_833 rfl ?_
        refine J_lcmp C iL_law_834 ?_
        refine J_ifeqL 840 C iL_law_835 rfl (fun h835 => ?_) (fun h835 => absurd (hv.trans (by rw [h826]; rfl)) h835)
        refine J_goto 2021 C iL_law_840 rfl ?_
        refine J_lvm [(4, .int (nI i)), (0, .ref b), (1, .ref (x 0)), (2, .ref (mo 0)), (3, .ref (ou 0))] rfl ?_
        refine J_less rc rs (by omega) (by omega) ?_
        exact next _ ⟨f9, w11, w23, _, _, _, _, _, _, _, _, _, _, _, _, _, _, _, _, _, _, _, _, _, rfl, hC1, hM2⟩
      · refine J_lconst 1 C iL_law_829 rfl ?_
        refine J_goto 834 C iL_law_830 rfl ?_
        refine J_lcmp C iL_law_834 ?_
        refine J_ifeqL 840 C iL_law_835 rfl (fun h835 => ?_) (fun h835 => absurd (hv.trans (by rw [h826]; rfl)) h835)
        refine J_goto 2021 C iL_law_840 rfl ?_
        refine J_lvm [(4, .int (nI i)), (0, .ref b), (1, .ref (x 0)), (2, .ref (mo 0)), (3, .ref (ou 0))] rfl ?_
        refine J_less rc rs (by omega) (by omega) ?_
        exact next _ ⟨f9, w11, w23, _, _, _, _, _, _, _, _, _, _, _, _, _, _, _, _, _, _, _, _, _, rfl, hC1, hM2⟩
    · exact absurd hc hc2
  · refine J_st (.int ((if ¬ hasB (nI N) (xs (i + 1)) = true then 1 else 0) : Int32) :: []) rfl ?_
    refine J_ws ((wOu Z ou f9 ++ w11) ++ w2) rfl ?_
    refine J_istore [(5, .int ((if ¬ hasB (nI N) (xs (i + 1)) = true then 1 else 0) : Int32)), (4, .int (nI i)), (0, .ref b), (1, .ref (x 0)), (2, .ref (mo 0)), (3, .ref (ou 0))] C iL_law_791 (by decide) rfl ?_
    refine J_aload_n C iL_law_793 rfl rfl ?_
    refine J_aload_n C iL_law_794 rfl rfl ?_
    refine J_iload C iL_law_795 rfl ?_
    refine J_iconst 1 C iL_law_797 rfl ?_
    refine J_iadd C iL_law_798 ?_
    rw [show (nI i) + 1 = nI (i + 1) from nI_add _ _]
    refine J_sld C S iL_law_799 (vp_in_nI (n := (i + 1)) (by omega) (by omega)) ?_
    rw [nI_clamp (n := (i + 1)) (by omega)]
    obtain ⟨fs2, hq2⟩ := hM.head
    refine J_cVb (ci := 9) (As := [.int (xs (i + 1))]) (st := []) (rc2 := (rc + 15)) (rs2 := (rs + 2994)) (w0 := w2) C iL_law_800 lm_L_171 yc_X10_hasCurfew yv_X10_hasCurfew (n_X10_hasCurfew hM) rfl rfl hq2 (wOu Z ou f9 ++ w11) [] (by simp only [List.append_nil]) rfl ⟨Nat.le_of_ble_eq_true rfl, Nat.le_of_ble_eq_true rfl⟩ (Nat.le_of_ble_eq_true rfl) (by show (rc + 15) = 0 + (rc + 15); omega) (by show (rs + 2994) = 0 + (rs + 2994); omega) ?_
    rintro _ w22 (⟨hc2, rfl, hM1⟩ | ⟨z9, hc2, rfl, hM1⟩)
    · exact absurd hc2 hc
    · refine J_st (.int (b2i z9) :: []) rfl ?_
      refine J_ws ((wOu Z ou f9 ++ w11) ++ w22) (by simp only [List.append_nil]) ?_
      refine J_istore [(6, .int (b2i z9)), (5, .int ((if ¬ hasB (nI N) (xs (i + 1)) = true then 1 else 0) : Int32)), (4, .int (nI i)), (0, .ref b), (1, .ref (x 0)), (2, .ref (mo 0)), (3, .ref (ou 0))] C iL_law_803 (by decide) rfl ?_
      refine J_aload_n C iL_law_805 rfl rfl ?_
      obtain ⟨fs3, hq3⟩ := hM1.head
      refine J_cVb (ci := 9) (As := []) (st := []) (rc2 := (rc + 15)) (rs2 := (rs + 2994)) (w0 := w22) C iL_law_806 lm_L_111 yc_X10_thrown yv_X10_thrown (n_X10_thrown hM1) rfl rfl hq3 (wOu Z ou f9 ++ w11) [] (by simp only [List.append_nil]) rfl ⟨Nat.le_of_ble_eq_true rfl, Nat.le_of_ble_eq_true rfl⟩ (Nat.le_of_ble_eq_true rfl) (by show (rc + 15) = 0 + (rc + 15); omega) (by show (rs + 2994) = 0 + (rs + 2994); omega) ?_
      rintro _ w23 ⟨rfl, hM2⟩
      refine J_st (.int ((if ¬ hasB (nI N) (xs (i + 1)) = true then 1 else 0) : Int32) :: []) rfl ?_
      refine J_ws ((wOu Z ou f9 ++ w11) ++ w23) (by simp only [List.append_nil]) ?_
      refine J_iload C iL_law_809 rfl ?_
      refine J_icmpeq 816 C iL_law_811 rfl (fun h811 => ?_) (fun h811 => absurd rfl h811)
      refine J_iload C iL_law_816 rfl ?_
      refine J_ifne 840 C iL_law_818 rfl (fun h818 => ?_) (fun h818 => absurd h818 hc)
      refine J_goto 2021 C iL_law_840 rfl ?_
      refine J_lvm [(4, .int (nI i)), (0, .ref b), (1, .ref (x 0)), (2, .ref (mo 0)), (3, .ref (ou 0))] rfl ?_
      refine J_less rc rs (by omega) (by omega) ?_
      exact next _ ⟨f9, w11, w23, _, _, _, _, _, _, _, _, _, _, _, _, _, _, _, _, _, _, _, _, _, rfl, hC1, hM2⟩

set_option maxRecDepth 100000 in
set_option maxHeartbeats 4000000 in
/-- case 17: curfewFrom -/
theorem law_17 {Z : GZ} {X : CX} {Q : State → Prop} {rc rs : Nat} (C : Cx Z X cL_law 9 RL) (hV : VN (cS X)) (hl : (cL X).stackTraces = false) {b L i : Nat} {xs : Nat → Int32} (S : Sc X b L xs) (hL : L ≤ 3072) (hi : i + 6 ≤ L) {x mo ou : Nat → Nat} {f : Nat → Int64} {w1 w2 : va_W} {th : Int32} {N u tm : Nat} {er dg co : Int32} {pP pH pF pT op f1 f2 l0 tb : Nat → Int32} {hh c0 c1 c2 c3 : Nat → Nat} (hC : CI Z x N u tm er dg co pP pH pF pT op f1 f2 l0 hh c0 c1 c2 c3 tb w1) (hM : MI Z mo th N u tm er dg co pP pH pF pT op f1 f2 l0 hh c0 c1 c2 c3 tb w2) (next : ∀ w9, LI Z x mo ou w9 → Jd Z X room_1 9 Q rc rs 2021 [(4, .int (nI i)), (0, .ref b), (1, .ref (x 0)), (2, .ref (mo 0)), (3, .ref (ou 0))] [] w9) : Jd Z X room_1 9 Q (rc + 16) (rs + 3000) 843 [(4, .int (nI i)), (0, .ref b), (1, .ref (x 0)), (2, .ref (mo 0)), (3, .ref (ou 0))] [] ((wOu Z ou f ++ w1) ++ w2) := by
  refine J_aload_n C iL_law_843 rfl rfl ?_
  refine J_aload_n C iL_law_844 rfl rfl ?_
  refine J_iload C iL_law_845 rfl ?_
  refine J_iconst 1 C iL_law_847 rfl ?_
  refine J_iadd C iL_law_848 ?_
  rw [show (nI i) + 1 = nI (i + 1) from nI_add _ _]
  refine J_sld C S iL_law_849 (vp_in_nI (n := (i + 1)) (by omega) (by omega)) ?_
  rw [nI_clamp (n := (i + 1)) (by omega)]
  refine J_aload_n C iL_law_850 rfl rfl ?_
  refine J_cSL (As := [.ref (x 0), .int (xs (i + 1)), .ref (ou 0)]) (st := []) (rc2 := (rc + 14)) (rs2 := (rs + 2988)) (w0 := wOu Z ou f ++ w1) C hV iL_law_851 lm_L_172 ycw_L_curfewFrom ys_L_curfewFrom (k_curfewFrom hl hC) [] w2 rfl rfl ⟨Nat.le_of_ble_eq_true rfl, Nat.le_of_ble_eq_true rfl⟩ (Nat.le_of_ble_eq_true rfl) (by show (rc + 16) = 2 + (rc + 14); omega) (by show (rs + 3000) = 12 + (rs + 2988); omega) ?_
  rintro _ w10 ⟨rfl, f9, w11, rfl, ⟨hc, hv, hC1⟩ | ⟨hc, hC1⟩⟩
  · refine J_st (.int ((if ¬ hasB (nI N) (xs (i + 1)) = true then 1 else (if stAt (nI N) (xs (i + 1)) pF (-1) = -1 then 2 else 0)) : Int32) :: []) rfl ?_
    refine J_ws ((wOu Z ou f9 ++ w11) ++ w2) rfl ?_
    refine J_istore [(5, .int ((if ¬ hasB (nI N) (xs (i + 1)) = true then 1 else (if stAt (nI N) (xs (i + 1)) pF (-1) = -1 then 2 else 0)) : Int32)), (4, .int (nI i)), (0, .ref b), (1, .ref (x 0)), (2, .ref (mo 0)), (3, .ref (ou 0))] C iL_law_854 (by decide) rfl ?_
    refine J_aload_n C iL_law_856 rfl rfl ?_
    refine J_aload_n C iL_law_857 rfl rfl ?_
    refine J_iload C iL_law_858 rfl ?_
    refine J_iconst 1 C iL_law_860 rfl ?_
    refine J_iadd C iL_law_861 ?_
    rw [show (nI i) + 1 = nI (i + 1) from nI_add _ _]
    refine J_sld C S iL_law_862 (vp_in_nI (n := (i + 1)) (by omega) (by omega)) ?_
    rw [nI_clamp (n := (i + 1)) (by omega)]
    obtain ⟨fs2, hq2⟩ := hM.head
    refine J_cVb (ci := 9) (As := [.int (xs (i + 1))]) (st := []) (rc2 := (rc + 14)) (rs2 := (rs + 2988)) (w0 := w2) C iL_law_863 lm_L_174 yc_X10_curfewFrom yv_X10_curfewFrom (n_X10_curfewFrom hM) rfl rfl hq2 (wOu Z ou f9 ++ w11) [] (by simp only [List.append_nil]) rfl ⟨Nat.le_of_ble_eq_true rfl, Nat.le_of_ble_eq_true rfl⟩ (Nat.le_of_ble_eq_true rfl) (by show (rc + 14) = 0 + (rc + 14); omega) (by show (rs + 2988) = 0 + (rs + 2988); omega) ?_
    rintro _ w22 (⟨hc2, rfl, hM1⟩ | ⟨z9, hc2, rfl, hM1⟩)
    · refine J_st (.int (stAt (nI N) (xs (i + 1)) pF (-1)) :: []) rfl ?_
      refine J_ws ((wOu Z ou f9 ++ w11) ++ w22) (by simp only [List.append_nil]) ?_
      refine J_istore [(6, .int (stAt (nI N) (xs (i + 1)) pF (-1))), (5, .int ((if ¬ hasB (nI N) (xs (i + 1)) = true then 1 else (if stAt (nI N) (xs (i + 1)) pF (-1) = -1 then 2 else 0)) : Int32)), (4, .int (nI i)), (0, .ref b), (1, .ref (x 0)), (2, .ref (mo 0)), (3, .ref (ou 0))] C iL_law_866 (by decide) rfl ?_
      refine J_aload_n C iL_law_868 rfl rfl ?_
      obtain ⟨fs3, hq3⟩ := hM1.head
      refine J_cVb (ci := 9) (As := []) (st := []) (rc2 := (rc + 14)) (rs2 := (rs + 2988)) (w0 := w22) C iL_law_869 lm_L_111 yc_X10_thrown yv_X10_thrown (n_X10_thrown hM1) rfl rfl hq3 (wOu Z ou f9 ++ w11) [] (by simp only [List.append_nil]) rfl ⟨Nat.le_of_ble_eq_true rfl, Nat.le_of_ble_eq_true rfl⟩ (Nat.le_of_ble_eq_true rfl) (by show (rc + 14) = 0 + (rc + 14); omega) (by show (rs + 2988) = 0 + (rs + 2988); omega) ?_
      rintro _ w23 ⟨rfl, hM2⟩
      refine J_st (.int 0 :: []) rfl ?_
      refine J_ws ((wOu Z ou f9 ++ w11) ++ w23) (by simp only [List.append_nil]) ?_
      refine J_iload C iL_law_872 rfl ?_
      refine J_icmpeq 879 C iL_law_874 rfl (fun h874 => ?_) (fun h874 => absurd hc.symm h874)
      refine J_iload C iL_law_879 rfl ?_
      refine J_ifne 896 C iL_law_881 rfl (fun h881 => absurd hc h881) (fun h881 => ?_)
      refine J_aload_n C iL_law_884 rfl rfl ?_
      refine J_iconst 0 C iL_law_885 rfl ?_
      refine J_lald 0 C iL_law_886 rfl (vp_in_nI (n := 0) (by omega) (by decide)) ?_
      rw [show Int32.toNatClampNeg 0 = 0 from rfl]
      refine J_iload C iL_law_887 rfl ?_
      refine J_i2l C iL_law_889 ?_
      refine J_lcmp C iL_law_890 ?_
      refine J_ifeqL 896 C iL_law_891 rfl (fun h891 => ?_) (fun h891 => absurd hv h891)
      refine J_goto 2021 C iL_law_896 rfl ?_
      refine J_lvm [(4, .int (nI i)), (0, .ref b), (1, .ref (x 0)), (2, .ref (mo 0)), (3, .ref (ou 0))] rfl ?_
      refine J_less rc rs (by omega) (by omega) ?_
      exact next _ ⟨f9, w11, w23, _, _, _, _, _, _, _, _, _, _, _, _, _, _, _, _, _, _, _, _, _, rfl, hC1, hM2⟩
    · exact absurd hc hc2
  · refine J_st (.int ((if ¬ hasB (nI N) (xs (i + 1)) = true then 1 else (if stAt (nI N) (xs (i + 1)) pF (-1) = -1 then 2 else 0)) : Int32) :: []) rfl ?_
    refine J_ws ((wOu Z ou f9 ++ w11) ++ w2) rfl ?_
    refine J_istore [(5, .int ((if ¬ hasB (nI N) (xs (i + 1)) = true then 1 else (if stAt (nI N) (xs (i + 1)) pF (-1) = -1 then 2 else 0)) : Int32)), (4, .int (nI i)), (0, .ref b), (1, .ref (x 0)), (2, .ref (mo 0)), (3, .ref (ou 0))] C iL_law_854 (by decide) rfl ?_
    refine J_aload_n C iL_law_856 rfl rfl ?_
    refine J_aload_n C iL_law_857 rfl rfl ?_
    refine J_iload C iL_law_858 rfl ?_
    refine J_iconst 1 C iL_law_860 rfl ?_
    refine J_iadd C iL_law_861 ?_
    rw [show (nI i) + 1 = nI (i + 1) from nI_add _ _]
    refine J_sld C S iL_law_862 (vp_in_nI (n := (i + 1)) (by omega) (by omega)) ?_
    rw [nI_clamp (n := (i + 1)) (by omega)]
    obtain ⟨fs2, hq2⟩ := hM.head
    refine J_cVb (ci := 9) (As := [.int (xs (i + 1))]) (st := []) (rc2 := (rc + 14)) (rs2 := (rs + 2988)) (w0 := w2) C iL_law_863 lm_L_174 yc_X10_curfewFrom yv_X10_curfewFrom (n_X10_curfewFrom hM) rfl rfl hq2 (wOu Z ou f9 ++ w11) [] (by simp only [List.append_nil]) rfl ⟨Nat.le_of_ble_eq_true rfl, Nat.le_of_ble_eq_true rfl⟩ (Nat.le_of_ble_eq_true rfl) (by show (rc + 14) = 0 + (rc + 14); omega) (by show (rs + 2988) = 0 + (rs + 2988); omega) ?_
    rintro _ w22 (⟨hc2, rfl, hM1⟩ | ⟨z9, hc2, rfl, hM1⟩)
    · exact absurd hc2 hc
    · refine J_st (.int z9 :: []) rfl ?_
      refine J_ws ((wOu Z ou f9 ++ w11) ++ w22) (by simp only [List.append_nil]) ?_
      refine J_istore [(6, .int z9), (5, .int ((if ¬ hasB (nI N) (xs (i + 1)) = true then 1 else (if stAt (nI N) (xs (i + 1)) pF (-1) = -1 then 2 else 0)) : Int32)), (4, .int (nI i)), (0, .ref b), (1, .ref (x 0)), (2, .ref (mo 0)), (3, .ref (ou 0))] C iL_law_866 (by decide) rfl ?_
      refine J_aload_n C iL_law_868 rfl rfl ?_
      obtain ⟨fs3, hq3⟩ := hM1.head
      refine J_cVb (ci := 9) (As := []) (st := []) (rc2 := (rc + 14)) (rs2 := (rs + 2988)) (w0 := w22) C iL_law_869 lm_L_111 yc_X10_thrown yv_X10_thrown (n_X10_thrown hM1) rfl rfl hq3 (wOu Z ou f9 ++ w11) [] (by simp only [List.append_nil]) rfl ⟨Nat.le_of_ble_eq_true rfl, Nat.le_of_ble_eq_true rfl⟩ (Nat.le_of_ble_eq_true rfl) (by show (rc + 14) = 0 + (rc + 14); omega) (by show (rs + 2988) = 0 + (rs + 2988); omega) ?_
      rintro _ w23 ⟨rfl, hM2⟩
      refine J_st (.int ((if ¬ hasB (nI N) (xs (i + 1)) = true then 1 else (if stAt (nI N) (xs (i + 1)) pF (-1) = -1 then 2 else 0)) : Int32) :: []) rfl ?_
      refine J_ws ((wOu Z ou f9 ++ w11) ++ w23) (by simp only [List.append_nil]) ?_
      refine J_iload C iL_law_872 rfl ?_
      refine J_icmpeq 879 C iL_law_874 rfl (fun h874 => ?_) (fun h874 => absurd rfl h874)
      refine J_iload C iL_law_879 rfl ?_
      refine J_ifne 896 C iL_law_881 rfl (fun h881 => ?_) (fun h881 => absurd h881 hc)
      refine J_goto 2021 C iL_law_896 rfl ?_
      refine J_lvm [(4, .int (nI i)), (0, .ref b), (1, .ref (x 0)), (2, .ref (mo 0)), (3, .ref (ou 0))] rfl ?_
      refine J_less rc rs (by omega) (by omega) ?_
      exact next _ ⟨f9, w11, w23, _, _, _, _, _, _, _, _, _, _, _, _, _, _, _, _, _, _, _, _, _, rfl, hC1, hM2⟩

set_option maxRecDepth 100000 in
set_option maxHeartbeats 4000000 in
/-- case 18: curfewTo -/
theorem law_18 {Z : GZ} {X : CX} {Q : State → Prop} {rc rs : Nat} (C : Cx Z X cL_law 9 RL) (hV : VN (cS X)) (hl : (cL X).stackTraces = false) {b L i : Nat} {xs : Nat → Int32} (S : Sc X b L xs) (hL : L ≤ 3072) (hi : i + 6 ≤ L) {x mo ou : Nat → Nat} {f : Nat → Int64} {w1 w2 : va_W} {th : Int32} {N u tm : Nat} {er dg co : Int32} {pP pH pF pT op f1 f2 l0 tb : Nat → Int32} {hh c0 c1 c2 c3 : Nat → Nat} (hC : CI Z x N u tm er dg co pP pH pF pT op f1 f2 l0 hh c0 c1 c2 c3 tb w1) (hM : MI Z mo th N u tm er dg co pP pH pF pT op f1 f2 l0 hh c0 c1 c2 c3 tb w2) (next : ∀ w9, LI Z x mo ou w9 → Jd Z X room_1 9 Q rc rs 2021 [(4, .int (nI i)), (0, .ref b), (1, .ref (x 0)), (2, .ref (mo 0)), (3, .ref (ou 0))] [] w9) : Jd Z X room_1 9 Q (rc + 16) (rs + 3000) 899 [(4, .int (nI i)), (0, .ref b), (1, .ref (x 0)), (2, .ref (mo 0)), (3, .ref (ou 0))] [] ((wOu Z ou f ++ w1) ++ w2) := by
  refine J_aload_n C iL_law_899 rfl rfl ?_
  refine J_aload_n C iL_law_900 rfl rfl ?_
  refine J_iload C iL_law_901 rfl ?_
  refine J_iconst 1 C iL_law_903 rfl ?_
  refine J_iadd C iL_law_904 ?_
  rw [show (nI i) + 1 = nI (i + 1) from nI_add _ _]
  refine J_sld C S iL_law_905 (vp_in_nI (n := (i + 1)) (by omega) (by omega)) ?_
  rw [nI_clamp (n := (i + 1)) (by omega)]
  refine J_aload_n C iL_law_906 rfl rfl ?_
  refine J_cSL (As := [.ref (x 0), .int (xs (i + 1)), .ref (ou 0)]) (st := []) (rc2 := (rc + 14)) (rs2 := (rs + 2988)) (w0 := wOu Z ou f ++ w1) C hV iL_law_907 lm_L_175 ycw_L_curfewTo ys_L_curfewTo (k_curfewTo hl hC) [] w2 rfl rfl ⟨Nat.le_of_ble_eq_true rfl, Nat.le_of_ble_eq_true rfl⟩ (Nat.le_of_ble_eq_true rfl) (by show (rc + 16) = 2 + (rc + 14); omega) (by show (rs + 3000) = 12 + (rs + 2988); omega) ?_
  rintro _ w10 ⟨rfl, f9, w11, rfl, ⟨hc, hv, hC1⟩ | ⟨hc, hC1⟩⟩
  · refine J_st (.int ((if ¬ hasB (nI N) (xs (i + 1)) = true then 1 else (if stAt (nI N) (xs (i + 1)) pF (-1) = -1 then 2 else 0)) : Int32) :: []) rfl ?_
    refine J_ws ((wOu Z ou f9 ++ w11) ++ w2) rfl ?_
    refine J_istore [(5, .int ((if ¬ hasB (nI N) (xs (i + 1)) = true then 1 else (if stAt (nI N) (xs (i + 1)) pF (-1) = -1 then 2 else 0)) : Int32)), (4, .int (nI i)), (0, .ref b), (1, .ref (x 0)), (2, .ref (mo 0)), (3, .ref (ou 0))] C iL_law_910 (by decide) rfl ?_
    refine J_aload_n C iL_law_912 rfl rfl ?_
    refine J_aload_n C iL_law_913 rfl rfl ?_
    refine J_iload C iL_law_914 rfl ?_
    refine J_iconst 1 C iL_law_916 rfl ?_
    refine J_iadd C iL_law_917 ?_
    rw [show (nI i) + 1 = nI (i + 1) from nI_add _ _]
    refine J_sld C S iL_law_918 (vp_in_nI (n := (i + 1)) (by omega) (by omega)) ?_
    rw [nI_clamp (n := (i + 1)) (by omega)]
    obtain ⟨fs2, hq2⟩ := hM.head
    refine J_cVb (ci := 9) (As := [.int (xs (i + 1))]) (st := []) (rc2 := (rc + 14)) (rs2 := (rs + 2988)) (w0 := w2) C iL_law_919 lm_L_177 yc_X10_curfewTo yv_X10_curfewTo (n_X10_curfewTo hM) rfl rfl hq2 (wOu Z ou f9 ++ w11) [] (by simp only [List.append_nil]) rfl ⟨Nat.le_of_ble_eq_true rfl, Nat.le_of_ble_eq_true rfl⟩ (Nat.le_of_ble_eq_true rfl) (by show (rc + 14) = 0 + (rc + 14); omega) (by show (rs + 2988) = 0 + (rs + 2988); omega) ?_
    rintro _ w22 (⟨hc2, rfl, hM1⟩ | ⟨z9, hc2, rfl, hM1⟩)
    · refine J_st (.int (stAt (nI N) (xs (i + 1)) pT (-1)) :: []) rfl ?_
      refine J_ws ((wOu Z ou f9 ++ w11) ++ w22) (by simp only [List.append_nil]) ?_
      refine J_istore [(6, .int (stAt (nI N) (xs (i + 1)) pT (-1))), (5, .int ((if ¬ hasB (nI N) (xs (i + 1)) = true then 1 else (if stAt (nI N) (xs (i + 1)) pF (-1) = -1 then 2 else 0)) : Int32)), (4, .int (nI i)), (0, .ref b), (1, .ref (x 0)), (2, .ref (mo 0)), (3, .ref (ou 0))] C iL_law_922 (by decide) rfl ?_
      refine J_aload_n C iL_law_924 rfl rfl ?_
      obtain ⟨fs3, hq3⟩ := hM1.head
      refine J_cVb (ci := 9) (As := []) (st := []) (rc2 := (rc + 14)) (rs2 := (rs + 2988)) (w0 := w22) C iL_law_925 lm_L_111 yc_X10_thrown yv_X10_thrown (n_X10_thrown hM1) rfl rfl hq3 (wOu Z ou f9 ++ w11) [] (by simp only [List.append_nil]) rfl ⟨Nat.le_of_ble_eq_true rfl, Nat.le_of_ble_eq_true rfl⟩ (Nat.le_of_ble_eq_true rfl) (by show (rc + 14) = 0 + (rc + 14); omega) (by show (rs + 2988) = 0 + (rs + 2988); omega) ?_
      rintro _ w23 ⟨rfl, hM2⟩
      refine J_st (.int 0 :: []) rfl ?_
      refine J_ws ((wOu Z ou f9 ++ w11) ++ w23) (by simp only [List.append_nil]) ?_
      refine J_iload C iL_law_928 rfl ?_
      refine J_icmpeq 935 C iL_law_930 rfl (fun h930 => ?_) (fun h930 => absurd hc.symm h930)
      refine J_iload C iL_law_935 rfl ?_
      refine J_ifne 952 C iL_law_937 rfl (fun h937 => absurd hc h937) (fun h937 => ?_)
      refine J_aload_n C iL_law_940 rfl rfl ?_
      refine J_iconst 0 C iL_law_941 rfl ?_
      refine J_lald 0 C iL_law_942 rfl (vp_in_nI (n := 0) (by omega) (by decide)) ?_
      rw [show Int32.toNatClampNeg 0 = 0 from rfl]
      refine J_iload C iL_law_943 rfl ?_
      refine J_i2l C iL_law_945 ?_
      refine J_lcmp C iL_law_946 ?_
      refine J_ifeqL 952 C iL_law_947 rfl (fun h947 => ?_) (fun h947 => absurd hv h947)
      refine J_goto 2021 C iL_law_952 rfl ?_
      refine J_lvm [(4, .int (nI i)), (0, .ref b), (1, .ref (x 0)), (2, .ref (mo 0)), (3, .ref (ou 0))] rfl ?_
      refine J_less rc rs (by omega) (by omega) ?_
      exact next _ ⟨f9, w11, w23, _, _, _, _, _, _, _, _, _, _, _, _, _, _, _, _, _, _, _, _, _, rfl, hC1, hM2⟩
    · exact absurd hc hc2
  · refine J_st (.int ((if ¬ hasB (nI N) (xs (i + 1)) = true then 1 else (if stAt (nI N) (xs (i + 1)) pF (-1) = -1 then 2 else 0)) : Int32) :: []) rfl ?_
    refine J_ws ((wOu Z ou f9 ++ w11) ++ w2) rfl ?_
    refine J_istore [(5, .int ((if ¬ hasB (nI N) (xs (i + 1)) = true then 1 else (if stAt (nI N) (xs (i + 1)) pF (-1) = -1 then 2 else 0)) : Int32)), (4, .int (nI i)), (0, .ref b), (1, .ref (x 0)), (2, .ref (mo 0)), (3, .ref (ou 0))] C iL_law_910 (by decide) rfl ?_
    refine J_aload_n C iL_law_912 rfl rfl ?_
    refine J_aload_n C iL_law_913 rfl rfl ?_
    refine J_iload C iL_law_914 rfl ?_
    refine J_iconst 1 C iL_law_916 rfl ?_
    refine J_iadd C iL_law_917 ?_
    rw [show (nI i) + 1 = nI (i + 1) from nI_add _ _]
    refine J_sld C S iL_law_918 (vp_in_nI (n := (i + 1)) (by omega) (by omega)) ?_
    rw [nI_clamp (n := (i + 1)) (by omega)]
    obtain ⟨fs2, hq2⟩ := hM.head
    refine J_cVb (ci := 9) (As := [.int (xs (i + 1))]) (st := []) (rc2 := (rc + 14)) (rs2 := (rs + 2988)) (w0 := w2) C iL_law_919 lm_L_177 yc_X10_curfewTo yv_X10_curfewTo (n_X10_curfewTo hM) rfl rfl hq2 (wOu Z ou f9 ++ w11) [] (by simp only [List.append_nil]) rfl ⟨Nat.le_of_ble_eq_true rfl, Nat.le_of_ble_eq_true rfl⟩ (Nat.le_of_ble_eq_true rfl) (by show (rc + 14) = 0 + (rc + 14); omega) (by show (rs + 2988) = 0 + (rs + 2988); omega) ?_
    rintro _ w22 (⟨hc2, rfl, hM1⟩ | ⟨z9, hc2, rfl, hM1⟩)
    · exact absurd hc2 hc
    · refine J_st (.int z9 :: []) rfl ?_
      refine J_ws ((wOu Z ou f9 ++ w11) ++ w22) (by simp only [List.append_nil]) ?_
      refine J_istore [(6, .int z9), (5, .int ((if ¬ hasB (nI N) (xs (i + 1)) = true then 1 else (if stAt (nI N) (xs (i + 1)) pF (-1) = -1 then 2 else 0)) : Int32)), (4, .int (nI i)), (0, .ref b), (1, .ref (x 0)), (2, .ref (mo 0)), (3, .ref (ou 0))] C iL_law_922 (by decide) rfl ?_
      refine J_aload_n C iL_law_924 rfl rfl ?_
      obtain ⟨fs3, hq3⟩ := hM1.head
      refine J_cVb (ci := 9) (As := []) (st := []) (rc2 := (rc + 14)) (rs2 := (rs + 2988)) (w0 := w22) C iL_law_925 lm_L_111 yc_X10_thrown yv_X10_thrown (n_X10_thrown hM1) rfl rfl hq3 (wOu Z ou f9 ++ w11) [] (by simp only [List.append_nil]) rfl ⟨Nat.le_of_ble_eq_true rfl, Nat.le_of_ble_eq_true rfl⟩ (Nat.le_of_ble_eq_true rfl) (by show (rc + 14) = 0 + (rc + 14); omega) (by show (rs + 2988) = 0 + (rs + 2988); omega) ?_
      rintro _ w23 ⟨rfl, hM2⟩
      refine J_st (.int ((if ¬ hasB (nI N) (xs (i + 1)) = true then 1 else (if stAt (nI N) (xs (i + 1)) pF (-1) = -1 then 2 else 0)) : Int32) :: []) rfl ?_
      refine J_ws ((wOu Z ou f9 ++ w11) ++ w23) (by simp only [List.append_nil]) ?_
      refine J_iload C iL_law_928 rfl ?_
      refine J_icmpeq 935 C iL_law_930 rfl (fun h930 => ?_) (fun h930 => absurd rfl h930)
      refine J_iload C iL_law_935 rfl ?_
      refine J_ifne 952 C iL_law_937 rfl (fun h937 => ?_) (fun h937 => absurd h937 hc)
      refine J_goto 2021 C iL_law_952 rfl ?_
      refine J_lvm [(4, .int (nI i)), (0, .ref b), (1, .ref (x 0)), (2, .ref (mo 0)), (3, .ref (ou 0))] rfl ?_
      refine J_less rc rs (by omega) (by omega) ?_
      exact next _ ⟨f9, w11, w23, _, _, _, _, _, _, _, _, _, _, _, _, _, _, _, _, _, _, _, _, _, rfl, hC1, hM2⟩

set_option maxRecDepth 100000 in
set_option maxHeartbeats 4000000 in
/-- case 19: hoursLostTo -/
theorem law_19 {Z : GZ} {X : CX} {Q : State → Prop} {rc rs : Nat} (C : Cx Z X cL_law 9 RL) (hV : VN (cS X)) (hl : (cL X).stackTraces = false) {b L i : Nat} {xs : Nat → Int32} (S : Sc X b L xs) (hL : L ≤ 3072) (hi : i + 6 ≤ L) {x mo ou : Nat → Nat} {f : Nat → Int64} {w1 w2 : va_W} {th : Int32} {N u tm : Nat} {er dg co : Int32} {pP pH pF pT op f1 f2 l0 tb : Nat → Int32} {hh c0 c1 c2 c3 : Nat → Nat} (hC : CI Z x N u tm er dg co pP pH pF pT op f1 f2 l0 hh c0 c1 c2 c3 tb w1) (hM : MI Z mo th N u tm er dg co pP pH pF pT op f1 f2 l0 hh c0 c1 c2 c3 tb w2) (next : ∀ w9, LI Z x mo ou w9 → Jd Z X room_1 9 Q rc rs 2021 [(4, .int (nI i)), (0, .ref b), (1, .ref (x 0)), (2, .ref (mo 0)), (3, .ref (ou 0))] [] w9) : Jd Z X room_1 9 Q (rc + 16) (rs + 3000) 955 [(4, .int (nI i)), (0, .ref b), (1, .ref (x 0)), (2, .ref (mo 0)), (3, .ref (ou 0))] [] ((wOu Z ou f ++ w1) ++ w2) := by
  refine J_aload_n C iL_law_955 rfl rfl ?_
  refine J_aload_n C iL_law_956 rfl rfl ?_
  refine J_iload C iL_law_957 rfl ?_
  refine J_iconst 1 C iL_law_959 rfl ?_
  refine J_iadd C iL_law_960 ?_
  rw [show (nI i) + 1 = nI (i + 1) from nI_add _ _]
  refine J_sld C S iL_law_961 (vp_in_nI (n := (i + 1)) (by omega) (by omega)) ?_
  rw [nI_clamp (n := (i + 1)) (by omega)]
  refine J_aload_n C iL_law_962 rfl rfl ?_
  refine J_iload C iL_law_963 rfl ?_
  refine J_iconst 2 C iL_law_965 rfl ?_
  refine J_iadd C iL_law_966 ?_
  rw [show (nI i) + 2 = nI (i + 2) from nI_add _ _]
  refine J_sld C S iL_law_967 (vp_in_nI (n := (i + 2)) (by omega) (by omega)) ?_
  rw [nI_clamp (n := (i + 2)) (by omega)]
  refine J_aload_n C iL_law_968 rfl rfl ?_
  refine J_cSL (As := [.ref (x 0), .int (xs (i + 1)), .int (xs (i + 2)), .ref (ou 0)]) (st := []) (rc2 := (rc + 14)) (rs2 := (rs + 2988)) (w0 := wOu Z ou f ++ w1) C hV iL_law_969 lm_L_178 ycw_L_hoursLostTo ys_L_hoursLostTo (k_hoursLostTo hl hC) [] w2 rfl rfl ⟨Nat.le_of_ble_eq_true rfl, Nat.le_of_ble_eq_true rfl⟩ (Nat.le_of_ble_eq_true rfl) (by show (rc + 16) = 2 + (rc + 14); omega) (by show (rs + 3000) = 12 + (rs + 2988); omega) ?_
  rintro _ w10 ⟨rfl, f9, w11, rfl, ⟨hc, hv, hC1⟩ | ⟨hc, hC1⟩⟩
  · refine J_st (.int ((if ¬ hasB (nI N) (xs (i + 1)) = true then 1 else (if ¬ hasB (nI N) (xs (i + 2)) = true then 1 else 0)) : Int32) :: []) rfl ?_
    refine J_ws ((wOu Z ou f9 ++ w11) ++ w2) rfl ?_
    refine J_istore [(5, .int ((if ¬ hasB (nI N) (xs (i + 1)) = true then 1 else (if ¬ hasB (nI N) (xs (i + 2)) = true then 1 else 0)) : Int32)), (4, .int (nI i)), (0, .ref b), (1, .ref (x 0)), (2, .ref (mo 0)), (3, .ref (ou 0))] C iL_law_972 (by decide) rfl ?_
    refine J_aload_n C iL_law_974 rfl rfl ?_
    refine J_aload_n C iL_law_975 rfl rfl ?_
    refine J_iload C iL_law_976 rfl ?_
    refine J_iconst 1 C iL_law_978 rfl ?_
    refine J_iadd C iL_law_979 ?_
    rw [show (nI i) + 1 = nI (i + 1) from nI_add _ _]
    refine J_sld C S iL_law_980 (vp_in_nI (n := (i + 1)) (by omega) (by omega)) ?_
    rw [nI_clamp (n := (i + 1)) (by omega)]
    refine J_aload_n C iL_law_981 rfl rfl ?_
    refine J_iload C iL_law_982 rfl ?_
    refine J_iconst 2 C iL_law_984 rfl ?_
    refine J_iadd C iL_law_985 ?_
    rw [show (nI i) + 2 = nI (i + 2) from nI_add _ _]
    refine J_sld C S iL_law_986 (vp_in_nI (n := (i + 2)) (by omega) (by omega)) ?_
    rw [nI_clamp (n := (i + 2)) (by omega)]
    obtain ⟨fs2, hq2⟩ := hM.head
    refine J_cVb (ci := 9) (As := [.int (xs (i + 1)), .int (xs (i + 2))]) (st := []) (rc2 := (rc + 14)) (rs2 := (rs + 2988)) (w0 := w2) C iL_law_987 lm_L_181 yc_X10_hoursLostTo yv_X10_hoursLostTo (n_X10_hoursLostTo hM) rfl rfl hq2 (wOu Z ou f9 ++ w11) [] (by simp only [List.append_nil]) rfl ⟨Nat.le_of_ble_eq_true rfl, Nat.le_of_ble_eq_true rfl⟩ (Nat.le_of_ble_eq_true rfl) (by show (rc + 14) = 0 + (rc + 14); omega) (by show (rs + 2988) = 0 + (rs + 2988); omega) ?_
    rintro _ w22 (⟨hc2, rfl, hM1⟩ | ⟨z9, hc2, rfl, hM1⟩)
    · refine J_st (.int (bitC (shX N pP pH pF pT (xs (i + 1)) (xs (i + 2)))) :: []) rfl ?_
      refine J_ws ((wOu Z ou f9 ++ w11) ++ w22) (by simp only [List.append_nil]) ?_
      refine J_istore [(6, .int (bitC (shX N pP pH pF pT (xs (i + 1)) (xs (i + 2))))), (5, .int ((if ¬ hasB (nI N) (xs (i + 1)) = true then 1 else (if ¬ hasB (nI N) (xs (i + 2)) = true then 1 else 0)) : Int32)), (4, .int (nI i)), (0, .ref b), (1, .ref (x 0)), (2, .ref (mo 0)), (3, .ref (ou 0))] C iL_law_990 (by decide) rfl ?_
      refine J_aload_n C iL_law_992 rfl rfl ?_
      obtain ⟨fs3, hq3⟩ := hM1.head
      refine J_cVb (ci := 9) (As := []) (st := []) (rc2 := (rc + 14)) (rs2 := (rs + 2988)) (w0 := w22) C iL_law_993 lm_L_111 yc_X10_thrown yv_X10_thrown (n_X10_thrown hM1) rfl rfl hq3 (wOu Z ou f9 ++ w11) [] (by simp only [List.append_nil]) rfl ⟨Nat.le_of_ble_eq_true rfl, Nat.le_of_ble_eq_true rfl⟩ (Nat.le_of_ble_eq_true rfl) (by show (rc + 14) = 0 + (rc + 14); omega) (by show (rs + 2988) = 0 + (rs + 2988); omega) ?_
      rintro _ w23 ⟨rfl, hM2⟩
      refine J_st (.int 0 :: []) rfl ?_
      refine J_ws ((wOu Z ou f9 ++ w11) ++ w23) (by simp only [List.append_nil]) ?_
      refine J_iload C iL_law_996 rfl ?_
      refine J_icmpeq 1003 C iL_law_998 rfl (fun h998 => ?_) (fun h998 => absurd hc.symm h998)
      refine J_iload C iL_law_1003 rfl ?_
      refine J_ifne 1020 C iL_law_1005 rfl (fun h1005 => absurd hc h1005) (fun h1005 => ?_)
      refine J_aload_n C iL_law_1008 rfl rfl ?_
      refine J_iconst 0 C iL_law_1009 rfl ?_
      refine J_lald 0 C iL_law_1010 rfl (vp_in_nI (n := 0) (by omega) (by decide)) ?_
      rw [show Int32.toNatClampNeg 0 = 0 from rfl]
      refine J_iload C iL_law_1011 rfl ?_
      refine J_i2l C iL_law_1013 ?_
      refine J_lcmp C iL_law_1014 ?_
      refine J_ifeqL 1020 C iL_law_1015 rfl (fun h1015 => ?_) (fun h1015 => absurd hv h1015)
      refine J_goto 2021 C iL_law_1020 rfl ?_
      refine J_lvm [(4, .int (nI i)), (0, .ref b), (1, .ref (x 0)), (2, .ref (mo 0)), (3, .ref (ou 0))] rfl ?_
      refine J_less rc rs (by omega) (by omega) ?_
      exact next _ ⟨f9, w11, w23, _, _, _, _, _, _, _, _, _, _, _, _, _, _, _, _, _, _, _, _, _, rfl, hC1, hM2⟩
    · exact absurd hc hc2
  · refine J_st (.int ((if ¬ hasB (nI N) (xs (i + 1)) = true then 1 else (if ¬ hasB (nI N) (xs (i + 2)) = true then 1 else 0)) : Int32) :: []) rfl ?_
    refine J_ws ((wOu Z ou f9 ++ w11) ++ w2) rfl ?_
    refine J_istore [(5, .int ((if ¬ hasB (nI N) (xs (i + 1)) = true then 1 else (if ¬ hasB (nI N) (xs (i + 2)) = true then 1 else 0)) : Int32)), (4, .int (nI i)), (0, .ref b), (1, .ref (x 0)), (2, .ref (mo 0)), (3, .ref (ou 0))] C iL_law_972 (by decide) rfl ?_
    refine J_aload_n C iL_law_974 rfl rfl ?_
    refine J_aload_n C iL_law_975 rfl rfl ?_
    refine J_iload C iL_law_976 rfl ?_
    refine J_iconst 1 C iL_law_978 rfl ?_
    refine J_iadd C iL_law_979 ?_
    rw [show (nI i) + 1 = nI (i + 1) from nI_add _ _]
    refine J_sld C S iL_law_980 (vp_in_nI (n := (i + 1)) (by omega) (by omega)) ?_
    rw [nI_clamp (n := (i + 1)) (by omega)]
    refine J_aload_n C iL_law_981 rfl rfl ?_
    refine J_iload C iL_law_982 rfl ?_
    refine J_iconst 2 C iL_law_984 rfl ?_
    refine J_iadd C iL_law_985 ?_
    rw [show (nI i) + 2 = nI (i + 2) from nI_add _ _]
    refine J_sld C S iL_law_986 (vp_in_nI (n := (i + 2)) (by omega) (by omega)) ?_
    rw [nI_clamp (n := (i + 2)) (by omega)]
    obtain ⟨fs2, hq2⟩ := hM.head
    refine J_cVb (ci := 9) (As := [.int (xs (i + 1)), .int (xs (i + 2))]) (st := []) (rc2 := (rc + 14)) (rs2 := (rs + 2988)) (w0 := w2) C iL_law_987 lm_L_181 yc_X10_hoursLostTo yv_X10_hoursLostTo (n_X10_hoursLostTo hM) rfl rfl hq2 (wOu Z ou f9 ++ w11) [] (by simp only [List.append_nil]) rfl ⟨Nat.le_of_ble_eq_true rfl, Nat.le_of_ble_eq_true rfl⟩ (Nat.le_of_ble_eq_true rfl) (by show (rc + 14) = 0 + (rc + 14); omega) (by show (rs + 2988) = 0 + (rs + 2988); omega) ?_
    rintro _ w22 (⟨hc2, rfl, hM1⟩ | ⟨z9, hc2, rfl, hM1⟩)
    · exact absurd hc2 hc
    · refine J_st (.int z9 :: []) rfl ?_
      refine J_ws ((wOu Z ou f9 ++ w11) ++ w22) (by simp only [List.append_nil]) ?_
      refine J_istore [(6, .int z9), (5, .int ((if ¬ hasB (nI N) (xs (i + 1)) = true then 1 else (if ¬ hasB (nI N) (xs (i + 2)) = true then 1 else 0)) : Int32)), (4, .int (nI i)), (0, .ref b), (1, .ref (x 0)), (2, .ref (mo 0)), (3, .ref (ou 0))] C iL_law_990 (by decide) rfl ?_
      refine J_aload_n C iL_law_992 rfl rfl ?_
      obtain ⟨fs3, hq3⟩ := hM1.head
      refine J_cVb (ci := 9) (As := []) (st := []) (rc2 := (rc + 14)) (rs2 := (rs + 2988)) (w0 := w22) C iL_law_993 lm_L_111 yc_X10_thrown yv_X10_thrown (n_X10_thrown hM1) rfl rfl hq3 (wOu Z ou f9 ++ w11) [] (by simp only [List.append_nil]) rfl ⟨Nat.le_of_ble_eq_true rfl, Nat.le_of_ble_eq_true rfl⟩ (Nat.le_of_ble_eq_true rfl) (by show (rc + 14) = 0 + (rc + 14); omega) (by show (rs + 2988) = 0 + (rs + 2988); omega) ?_
      rintro _ w23 ⟨rfl, hM2⟩
      refine J_st (.int ((if ¬ hasB (nI N) (xs (i + 1)) = true then 1 else (if ¬ hasB (nI N) (xs (i + 2)) = true then 1 else 0)) : Int32) :: []) rfl ?_
      refine J_ws ((wOu Z ou f9 ++ w11) ++ w23) (by simp only [List.append_nil]) ?_
      refine J_iload C iL_law_996 rfl ?_
      refine J_icmpeq 1003 C iL_law_998 rfl (fun h998 => ?_) (fun h998 => absurd rfl h998)
      refine J_iload C iL_law_1003 rfl ?_
      refine J_ifne 1020 C iL_law_1005 rfl (fun h1005 => ?_) (fun h1005 => absurd h1005 hc)
      refine J_goto 2021 C iL_law_1020 rfl ?_
      refine J_lvm [(4, .int (nI i)), (0, .ref b), (1, .ref (x 0)), (2, .ref (mo 0)), (3, .ref (ou 0))] rfl ?_
      refine J_less rc rs (by omega) (by omega) ?_
      exact next _ ⟨f9, w11, w23, _, _, _, _, _, _, _, _, _, _, _, _, _, _, _, _, _, _, _, _, _, rfl, hC1, hM2⟩

set_option maxRecDepth 100000 in
set_option maxHeartbeats 4000000 in
/-- case 20: heightAt -/
theorem law_20 {Z : GZ} {X : CX} {Q : State → Prop} {rc rs : Nat} (C : Cx Z X cL_law 9 RL) (hV : VN (cS X)) (hl : (cL X).stackTraces = false) {b L i : Nat} {xs : Nat → Int32} (S : Sc X b L xs) (hL : L ≤ 3072) (hi : i + 6 ≤ L) {x mo ou : Nat → Nat} {f : Nat → Int64} {w1 w2 : va_W} {th : Int32} {N u tm : Nat} {er dg co : Int32} {pP pH pF pT op f1 f2 l0 tb : Nat → Int32} {hh c0 c1 c2 c3 : Nat → Nat} (hC : CI Z x N u tm er dg co pP pH pF pT op f1 f2 l0 hh c0 c1 c2 c3 tb w1) (hM : MI Z mo th N u tm er dg co pP pH pF pT op f1 f2 l0 hh c0 c1 c2 c3 tb w2) (next : ∀ w9, LI Z x mo ou w9 → Jd Z X room_1 9 Q rc rs 2021 [(4, .int (nI i)), (0, .ref b), (1, .ref (x 0)), (2, .ref (mo 0)), (3, .ref (ou 0))] [] w9) : Jd Z X room_1 9 Q (rc + 16) (rs + 3000) 1023 [(4, .int (nI i)), (0, .ref b), (1, .ref (x 0)), (2, .ref (mo 0)), (3, .ref (ou 0))] [] ((wOu Z ou f ++ w1) ++ w2) := by
  refine J_aload_n C iL_law_1023 rfl rfl ?_
  refine J_aload_n C iL_law_1024 rfl rfl ?_
  refine J_iload C iL_law_1025 rfl ?_
  refine J_iconst 1 C iL_law_1027 rfl ?_
  refine J_iadd C iL_law_1028 ?_
  rw [show (nI i) + 1 = nI (i + 1) from nI_add _ _]
  refine J_sld C S iL_law_1029 (vp_in_nI (n := (i + 1)) (by omega) (by omega)) ?_
  rw [nI_clamp (n := (i + 1)) (by omega)]
  refine J_aload_n C iL_law_1030 rfl rfl ?_
  refine J_iload C iL_law_1031 rfl ?_
  refine J_iconst 2 C iL_law_1033 rfl ?_
  refine J_iadd C iL_law_1034 ?_
  rw [show (nI i) + 2 = nI (i + 2) from nI_add _ _]
  refine J_sld C S iL_law_1035 (vp_in_nI (n := (i + 2)) (by omega) (by omega)) ?_
  rw [nI_clamp (n := (i + 2)) (by omega)]
  refine J_aload_n C iL_law_1036 rfl rfl ?_
  refine J_cSL (As := [.ref (x 0), .int (xs (i + 1)), .int (xs (i + 2)), .ref (ou 0)]) (st := []) (rc2 := (rc + 14)) (rs2 := (rs + 2988)) (w0 := wOu Z ou f ++ w1) C hV iL_law_1037 lm_L_182 ycw_L_heightAt ys_L_heightAt (k_heightAt hl hC) [] w2 rfl rfl ⟨Nat.le_of_ble_eq_true rfl, Nat.le_of_ble_eq_true rfl⟩ (Nat.le_of_ble_eq_true rfl) (by show (rc + 16) = 2 + (rc + 14); omega) (by show (rs + 3000) = 12 + (rs + 2988); omega) ?_
  rintro _ w10 ⟨rfl, f9, w11, rfl, ⟨hc, hv, hC1⟩ | ⟨hc, hC1⟩⟩
  · refine J_st (.int ((if ¬ hasB (nI N) (xs (i + 1)) = true then 1 else (if ((xs (i + 2)) < 0 ∨ 24 ≤ (xs (i + 2))) then 1 else 0)) : Int32) :: []) rfl ?_
    refine J_ws ((wOu Z ou f9 ++ w11) ++ w2) rfl ?_
    refine J_istore [(5, .int ((if ¬ hasB (nI N) (xs (i + 1)) = true then 1 else (if ((xs (i + 2)) < 0 ∨ 24 ≤ (xs (i + 2))) then 1 else 0)) : Int32)), (4, .int (nI i)), (0, .ref b), (1, .ref (x 0)), (2, .ref (mo 0)), (3, .ref (ou 0))] C iL_law_1040 (by decide) rfl ?_
    refine J_aload_n C iL_law_1042 rfl rfl ?_
    refine J_aload_n C iL_law_1043 rfl rfl ?_
    refine J_iload C iL_law_1044 rfl ?_
    refine J_iconst 1 C iL_law_1046 rfl ?_
    refine J_iadd C iL_law_1047 ?_
    rw [show (nI i) + 1 = nI (i + 1) from nI_add _ _]
    refine J_sld C S iL_law_1048 (vp_in_nI (n := (i + 1)) (by omega) (by omega)) ?_
    rw [nI_clamp (n := (i + 1)) (by omega)]
    refine J_aload_n C iL_law_1049 rfl rfl ?_
    refine J_iload C iL_law_1050 rfl ?_
    refine J_iconst 2 C iL_law_1052 rfl ?_
    refine J_iadd C iL_law_1053 ?_
    rw [show (nI i) + 2 = nI (i + 2) from nI_add _ _]
    refine J_sld C S iL_law_1054 (vp_in_nI (n := (i + 2)) (by omega) (by omega)) ?_
    rw [nI_clamp (n := (i + 2)) (by omega)]
    obtain ⟨fs2, hq2⟩ := hM.head
    refine J_cVb (ci := 9) (As := [.int (xs (i + 1)), .int (xs (i + 2))]) (st := []) (rc2 := (rc + 14)) (rs2 := (rs + 2988)) (w0 := w2) C iL_law_1055 lm_L_184 yc_X10_heightAt yv_X10_heightAt (n_X10_heightAt hM) rfl rfl hq2 (wOu Z ou f9 ++ w11) [] (by simp only [List.append_nil]) rfl ⟨Nat.le_of_ble_eq_true rfl, Nat.le_of_ble_eq_true rfl⟩ (Nat.le_of_ble_eq_true rfl) (by show (rc + 14) = 0 + (rc + 14); omega) (by show (rs + 2988) = 0 + (rs + 2988); omega) ?_
    rintro _ w22 (⟨hc2, rfl, hM1⟩ | ⟨z9, hc2, rfl, hM1⟩)
    · refine J_st (.int (wallF (nI N) pH pF pT (xs (i + 1)) (xs (i + 2))) :: []) rfl ?_
      refine J_ws ((wOu Z ou f9 ++ w11) ++ w22) (by simp only [List.append_nil]) ?_
      refine J_istore [(6, .int (wallF (nI N) pH pF pT (xs (i + 1)) (xs (i + 2)))), (5, .int ((if ¬ hasB (nI N) (xs (i + 1)) = true then 1 else (if ((xs (i + 2)) < 0 ∨ 24 ≤ (xs (i + 2))) then 1 else 0)) : Int32)), (4, .int (nI i)), (0, .ref b), (1, .ref (x 0)), (2, .ref (mo 0)), (3, .ref (ou 0))] C iL_law_1058 (by decide) rfl ?_
      refine J_aload_n C iL_law_1060 rfl rfl ?_
      obtain ⟨fs3, hq3⟩ := hM1.head
      refine J_cVb (ci := 9) (As := []) (st := []) (rc2 := (rc + 14)) (rs2 := (rs + 2988)) (w0 := w22) C iL_law_1061 lm_L_111 yc_X10_thrown yv_X10_thrown (n_X10_thrown hM1) rfl rfl hq3 (wOu Z ou f9 ++ w11) [] (by simp only [List.append_nil]) rfl ⟨Nat.le_of_ble_eq_true rfl, Nat.le_of_ble_eq_true rfl⟩ (Nat.le_of_ble_eq_true rfl) (by show (rc + 14) = 0 + (rc + 14); omega) (by show (rs + 2988) = 0 + (rs + 2988); omega) ?_
      rintro _ w23 ⟨rfl, hM2⟩
      refine J_st (.int 0 :: []) rfl ?_
      refine J_ws ((wOu Z ou f9 ++ w11) ++ w23) (by simp only [List.append_nil]) ?_
      refine J_iload C iL_law_1064 rfl ?_
      refine J_icmpeq 1071 C iL_law_1066 rfl (fun h1066 => ?_) (fun h1066 => absurd hc.symm h1066)
      refine J_iload C iL_law_1071 rfl ?_
      refine J_ifne 1088 C iL_law_1073 rfl (fun h1073 => absurd hc h1073) (fun h1073 => ?_)
      refine J_aload_n C iL_law_1076 rfl rfl ?_
      refine J_iconst 0 C iL_law_1077 rfl ?_
      refine J_lald 0 C iL_law_1078 rfl (vp_in_nI (n := 0) (by omega) (by decide)) ?_
      rw [show Int32.toNatClampNeg 0 = 0 from rfl]
      refine J_iload C iL_law_1079 rfl ?_
      refine J_i2l C iL_law_1081 ?_
      refine J_lcmp C iL_law_1082 ?_
      refine J_ifeqL 1088 C iL_law_1083 rfl (fun h1083 => ?_) (fun h1083 => absurd hv h1083)
      refine J_goto 2021 C iL_law_1088 rfl ?_
      refine J_lvm [(4, .int (nI i)), (0, .ref b), (1, .ref (x 0)), (2, .ref (mo 0)), (3, .ref (ou 0))] rfl ?_
      refine J_less rc rs (by omega) (by omega) ?_
      exact next _ ⟨f9, w11, w23, _, _, _, _, _, _, _, _, _, _, _, _, _, _, _, _, _, _, _, _, _, rfl, hC1, hM2⟩
    · exact absurd hc hc2
  · refine J_st (.int ((if ¬ hasB (nI N) (xs (i + 1)) = true then 1 else (if ((xs (i + 2)) < 0 ∨ 24 ≤ (xs (i + 2))) then 1 else 0)) : Int32) :: []) rfl ?_
    refine J_ws ((wOu Z ou f9 ++ w11) ++ w2) rfl ?_
    refine J_istore [(5, .int ((if ¬ hasB (nI N) (xs (i + 1)) = true then 1 else (if ((xs (i + 2)) < 0 ∨ 24 ≤ (xs (i + 2))) then 1 else 0)) : Int32)), (4, .int (nI i)), (0, .ref b), (1, .ref (x 0)), (2, .ref (mo 0)), (3, .ref (ou 0))] C iL_law_1040 (by decide) rfl ?_
    refine J_aload_n C iL_law_1042 rfl rfl ?_
    refine J_aload_n C iL_law_1043 rfl rfl ?_
    refine J_iload C iL_law_1044 rfl ?_
    refine J_iconst 1 C iL_law_1046 rfl ?_
    refine J_iadd C iL_law_1047 ?_
    rw [show (nI i) + 1 = nI (i + 1) from nI_add _ _]
    refine J_sld C S iL_law_1048 (vp_in_nI (n := (i + 1)) (by omega) (by omega)) ?_
    rw [nI_clamp (n := (i + 1)) (by omega)]
    refine J_aload_n C iL_law_1049 rfl rfl ?_
    refine J_iload C iL_law_1050 rfl ?_
    refine J_iconst 2 C iL_law_1052 rfl ?_
    refine J_iadd C iL_law_1053 ?_
    rw [show (nI i) + 2 = nI (i + 2) from nI_add _ _]
    refine J_sld C S iL_law_1054 (vp_in_nI (n := (i + 2)) (by omega) (by omega)) ?_
    rw [nI_clamp (n := (i + 2)) (by omega)]
    obtain ⟨fs2, hq2⟩ := hM.head
    refine J_cVb (ci := 9) (As := [.int (xs (i + 1)), .int (xs (i + 2))]) (st := []) (rc2 := (rc + 14)) (rs2 := (rs + 2988)) (w0 := w2) C iL_law_1055 lm_L_184 yc_X10_heightAt yv_X10_heightAt (n_X10_heightAt hM) rfl rfl hq2 (wOu Z ou f9 ++ w11) [] (by simp only [List.append_nil]) rfl ⟨Nat.le_of_ble_eq_true rfl, Nat.le_of_ble_eq_true rfl⟩ (Nat.le_of_ble_eq_true rfl) (by show (rc + 14) = 0 + (rc + 14); omega) (by show (rs + 2988) = 0 + (rs + 2988); omega) ?_
    rintro _ w22 (⟨hc2, rfl, hM1⟩ | ⟨z9, hc2, rfl, hM1⟩)
    · exact absurd hc2 hc
    · refine J_st (.int z9 :: []) rfl ?_
      refine J_ws ((wOu Z ou f9 ++ w11) ++ w22) (by simp only [List.append_nil]) ?_
      refine J_istore [(6, .int z9), (5, .int ((if ¬ hasB (nI N) (xs (i + 1)) = true then 1 else (if ((xs (i + 2)) < 0 ∨ 24 ≤ (xs (i + 2))) then 1 else 0)) : Int32)), (4, .int (nI i)), (0, .ref b), (1, .ref (x 0)), (2, .ref (mo 0)), (3, .ref (ou 0))] C iL_law_1058 (by decide) rfl ?_
      refine J_aload_n C iL_law_1060 rfl rfl ?_
      obtain ⟨fs3, hq3⟩ := hM1.head
      refine J_cVb (ci := 9) (As := []) (st := []) (rc2 := (rc + 14)) (rs2 := (rs + 2988)) (w0 := w22) C iL_law_1061 lm_L_111 yc_X10_thrown yv_X10_thrown (n_X10_thrown hM1) rfl rfl hq3 (wOu Z ou f9 ++ w11) [] (by simp only [List.append_nil]) rfl ⟨Nat.le_of_ble_eq_true rfl, Nat.le_of_ble_eq_true rfl⟩ (Nat.le_of_ble_eq_true rfl) (by show (rc + 14) = 0 + (rc + 14); omega) (by show (rs + 2988) = 0 + (rs + 2988); omega) ?_
      rintro _ w23 ⟨rfl, hM2⟩
      refine J_st (.int ((if ¬ hasB (nI N) (xs (i + 1)) = true then 1 else (if ((xs (i + 2)) < 0 ∨ 24 ≤ (xs (i + 2))) then 1 else 0)) : Int32) :: []) rfl ?_
      refine J_ws ((wOu Z ou f9 ++ w11) ++ w23) (by simp only [List.append_nil]) ?_
      refine J_iload C iL_law_1064 rfl ?_
      refine J_icmpeq 1071 C iL_law_1066 rfl (fun h1066 => ?_) (fun h1066 => absurd rfl h1066)
      refine J_iload C iL_law_1071 rfl ?_
      refine J_ifne 1088 C iL_law_1073 rfl (fun h1073 => ?_) (fun h1073 => absurd h1073 hc)
      refine J_goto 2021 C iL_law_1088 rfl ?_
      refine J_lvm [(4, .int (nI i)), (0, .ref b), (1, .ref (x 0)), (2, .ref (mo 0)), (3, .ref (ou 0))] rfl ?_
      refine J_less rc rs (by omega) (by omega) ?_
      exact next _ ⟨f9, w11, w23, _, _, _, _, _, _, _, _, _, _, _, _, _, _, _, _, _, _, _, _, _, rfl, hC1, hM2⟩

set_option maxRecDepth 100000 in
set_option maxHeartbeats 4000000 in
/-- case 21: shadowOf -/
theorem law_21 {Z : GZ} {X : CX} {Q : State → Prop} {rc rs : Nat} (C : Cx Z X cL_law 9 RL) (hV : VN (cS X)) (hl : (cL X).stackTraces = false) {b L i : Nat} {xs : Nat → Int32} (S : Sc X b L xs) (hL : L ≤ 3072) (hi : i + 6 ≤ L) {x mo ou : Nat → Nat} {f : Nat → Int64} {w1 w2 : va_W} {th : Int32} {N u tm : Nat} {er dg co : Int32} {pP pH pF pT op f1 f2 l0 tb : Nat → Int32} {hh c0 c1 c2 c3 : Nat → Nat} (hC : CI Z x N u tm er dg co pP pH pF pT op f1 f2 l0 hh c0 c1 c2 c3 tb w1) (hM : MI Z mo th N u tm er dg co pP pH pF pT op f1 f2 l0 hh c0 c1 c2 c3 tb w2) (next : ∀ w9, LI Z x mo ou w9 → Jd Z X room_1 9 Q rc rs 2021 [(4, .int (nI i)), (0, .ref b), (1, .ref (x 0)), (2, .ref (mo 0)), (3, .ref (ou 0))] [] w9) : Jd Z X room_1 9 Q (rc + 16) (rs + 3000) 1091 [(4, .int (nI i)), (0, .ref b), (1, .ref (x 0)), (2, .ref (mo 0)), (3, .ref (ou 0))] [] ((wOu Z ou f ++ w1) ++ w2) := by
  refine J_aload_n C iL_law_1091 rfl rfl ?_
  refine J_aload_n C iL_law_1092 rfl rfl ?_
  refine J_iload C iL_law_1093 rfl ?_
  refine J_iconst 1 C iL_law_1095 rfl ?_
  refine J_iadd C iL_law_1096 ?_
  rw [show (nI i) + 1 = nI (i + 1) from nI_add _ _]
  refine J_sld C S iL_law_1097 (vp_in_nI (n := (i + 1)) (by omega) (by omega)) ?_
  rw [nI_clamp (n := (i + 1)) (by omega)]
  refine J_aload_n C iL_law_1098 rfl rfl ?_
  refine J_iload C iL_law_1099 rfl ?_
  refine J_iconst 2 C iL_law_1101 rfl ?_
  refine J_iadd C iL_law_1102 ?_
  rw [show (nI i) + 2 = nI (i + 2) from nI_add _ _]
  refine J_sld C S iL_law_1103 (vp_in_nI (n := (i + 2)) (by omega) (by omega)) ?_
  rw [nI_clamp (n := (i + 2)) (by omega)]
  refine J_aload_n C iL_law_1104 rfl rfl ?_
  refine J_cSL (As := [.ref (x 0), .int (xs (i + 1)), .int (xs (i + 2)), .ref (ou 0)]) (st := []) (rc2 := (rc + 14)) (rs2 := (rs + 2988)) (w0 := wOu Z ou f ++ w1) C hV iL_law_1105 lm_L_185 ycw_L_shadowOf ys_L_shadowOf (k_shadowOf hl hC) [] w2 rfl rfl ⟨Nat.le_of_ble_eq_true rfl, Nat.le_of_ble_eq_true rfl⟩ (Nat.le_of_ble_eq_true rfl) (by show (rc + 16) = 2 + (rc + 14); omega) (by show (rs + 3000) = 12 + (rs + 2988); omega) ?_
  rintro _ w10 ⟨rfl, f9, w11, rfl, ⟨hc, hv, hC1⟩ | ⟨hc, hC1⟩⟩
  · refine J_st (.int ((if ¬ hasB (nI N) (xs (i + 1)) = true then 1 else (if ((xs (i + 2)) < 0 ∨ 24 ≤ (xs (i + 2))) then 1 else 0)) : Int32) :: []) rfl ?_
    refine J_ws ((wOu Z ou f9 ++ w11) ++ w2) rfl ?_
    refine J_istore [(5, .int ((if ¬ hasB (nI N) (xs (i + 1)) = true then 1 else (if ((xs (i + 2)) < 0 ∨ 24 ≤ (xs (i + 2))) then 1 else 0)) : Int32)), (4, .int (nI i)), (0, .ref b), (1, .ref (x 0)), (2, .ref (mo 0)), (3, .ref (ou 0))] C iL_law_1108 (by decide) rfl ?_
    refine J_aload_n C iL_law_1110 rfl rfl ?_
    refine J_aload_n C iL_law_1111 rfl rfl ?_
    refine J_iload C iL_law_1112 rfl ?_
    refine J_iconst 1 C iL_law_1114 rfl ?_
    refine J_iadd C iL_law_1115 ?_
    rw [show (nI i) + 1 = nI (i + 1) from nI_add _ _]
    refine J_sld C S iL_law_1116 (vp_in_nI (n := (i + 1)) (by omega) (by omega)) ?_
    rw [nI_clamp (n := (i + 1)) (by omega)]
    refine J_aload_n C iL_law_1117 rfl rfl ?_
    refine J_iload C iL_law_1118 rfl ?_
    refine J_iconst 2 C iL_law_1120 rfl ?_
    refine J_iadd C iL_law_1121 ?_
    rw [show (nI i) + 2 = nI (i + 2) from nI_add _ _]
    refine J_sld C S iL_law_1122 (vp_in_nI (n := (i + 2)) (by omega) (by omega)) ?_
    rw [nI_clamp (n := (i + 2)) (by omega)]
    obtain ⟨fs2, hq2⟩ := hM.head
    refine J_cVb (ci := 9) (As := [.int (xs (i + 1)), .int (xs (i + 2))]) (st := []) (rc2 := (rc + 14)) (rs2 := (rs + 2988)) (w0 := w2) C iL_law_1123 lm_L_187 yc_X10_shadowOf yv_X10_shadowOf (n_X10_shadowOf hM) rfl rfl hq2 (wOu Z ou f9 ++ w11) [] (by simp only [List.append_nil]) rfl ⟨Nat.le_of_ble_eq_true rfl, Nat.le_of_ble_eq_true rfl⟩ (Nat.le_of_ble_eq_true rfl) (by show (rc + 14) = 0 + (rc + 14); omega) (by show (rs + 2988) = 0 + (rs + 2988); omega) ?_
    rintro _ w22 (⟨hc2, rfl, hM1⟩ | ⟨z9, hc2, rfl, hM1⟩)
    · refine J_st (.int (wallF (nI N) pH pF pT (xs (i + 1)) (xs (i + 2)) * stepsF (xs (i + 2)) / 2) :: []) rfl ?_
      refine J_ws ((wOu Z ou f9 ++ w11) ++ w22) (by simp only [List.append_nil]) ?_
      refine J_istore [(6, .int (wallF (nI N) pH pF pT (xs (i + 1)) (xs (i + 2)) * stepsF (xs (i + 2)) / 2)), (5, .int ((if ¬ hasB (nI N) (xs (i + 1)) = true then 1 else (if ((xs (i + 2)) < 0 ∨ 24 ≤ (xs (i + 2))) then 1 else 0)) : Int32)), (4, .int (nI i)), (0, .ref b), (1, .ref (x 0)), (2, .ref (mo 0)), (3, .ref (ou 0))] C iL_law_1126 (by decide) rfl ?_
      refine J_aload_n C iL_law_1128 rfl rfl ?_
      obtain ⟨fs3, hq3⟩ := hM1.head
      refine J_cVb (ci := 9) (As := []) (st := []) (rc2 := (rc + 14)) (rs2 := (rs + 2988)) (w0 := w22) C iL_law_1129 lm_L_111 yc_X10_thrown yv_X10_thrown (n_X10_thrown hM1) rfl rfl hq3 (wOu Z ou f9 ++ w11) [] (by simp only [List.append_nil]) rfl ⟨Nat.le_of_ble_eq_true rfl, Nat.le_of_ble_eq_true rfl⟩ (Nat.le_of_ble_eq_true rfl) (by show (rc + 14) = 0 + (rc + 14); omega) (by show (rs + 2988) = 0 + (rs + 2988); omega) ?_
      rintro _ w23 ⟨rfl, hM2⟩
      refine J_st (.int 0 :: []) rfl ?_
      refine J_ws ((wOu Z ou f9 ++ w11) ++ w23) (by simp only [List.append_nil]) ?_
      refine J_iload C iL_law_1132 rfl ?_
      refine J_icmpeq 1139 C iL_law_1134 rfl (fun h1134 => ?_) (fun h1134 => absurd hc.symm h1134)
      refine J_iload C iL_law_1139 rfl ?_
      refine J_ifne 1156 C iL_law_1141 rfl (fun h1141 => absurd hc h1141) (fun h1141 => ?_)
      refine J_aload_n C iL_law_1144 rfl rfl ?_
      refine J_iconst 0 C iL_law_1145 rfl ?_
      refine J_lald 0 C iL_law_1146 rfl (vp_in_nI (n := 0) (by omega) (by decide)) ?_
      rw [show Int32.toNatClampNeg 0 = 0 from rfl]
      refine J_iload C iL_law_1147 rfl ?_
      refine J_i2l C iL_law_1149 ?_
      refine J_lcmp C iL_law_1150 ?_
      refine J_ifeqL 1156 C iL_law_1151 rfl (fun h1151 => ?_) (fun h1151 => absurd hv h1151)
      refine J_goto 2021 C iL_law_1156 rfl ?_
      refine J_lvm [(4, .int (nI i)), (0, .ref b), (1, .ref (x 0)), (2, .ref (mo 0)), (3, .ref (ou 0))] rfl ?_
      refine J_less rc rs (by omega) (by omega) ?_
      exact next _ ⟨f9, w11, w23, _, _, _, _, _, _, _, _, _, _, _, _, _, _, _, _, _, _, _, _, _, rfl, hC1, hM2⟩
    · exact absurd hc hc2
  · refine J_st (.int ((if ¬ hasB (nI N) (xs (i + 1)) = true then 1 else (if ((xs (i + 2)) < 0 ∨ 24 ≤ (xs (i + 2))) then 1 else 0)) : Int32) :: []) rfl ?_
    refine J_ws ((wOu Z ou f9 ++ w11) ++ w2) rfl ?_
    refine J_istore [(5, .int ((if ¬ hasB (nI N) (xs (i + 1)) = true then 1 else (if ((xs (i + 2)) < 0 ∨ 24 ≤ (xs (i + 2))) then 1 else 0)) : Int32)), (4, .int (nI i)), (0, .ref b), (1, .ref (x 0)), (2, .ref (mo 0)), (3, .ref (ou 0))] C iL_law_1108 (by decide) rfl ?_
    refine J_aload_n C iL_law_1110 rfl rfl ?_
    refine J_aload_n C iL_law_1111 rfl rfl ?_
    refine J_iload C iL_law_1112 rfl ?_
    refine J_iconst 1 C iL_law_1114 rfl ?_
    refine J_iadd C iL_law_1115 ?_
    rw [show (nI i) + 1 = nI (i + 1) from nI_add _ _]
    refine J_sld C S iL_law_1116 (vp_in_nI (n := (i + 1)) (by omega) (by omega)) ?_
    rw [nI_clamp (n := (i + 1)) (by omega)]
    refine J_aload_n C iL_law_1117 rfl rfl ?_
    refine J_iload C iL_law_1118 rfl ?_
    refine J_iconst 2 C iL_law_1120 rfl ?_
    refine J_iadd C iL_law_1121 ?_
    rw [show (nI i) + 2 = nI (i + 2) from nI_add _ _]
    refine J_sld C S iL_law_1122 (vp_in_nI (n := (i + 2)) (by omega) (by omega)) ?_
    rw [nI_clamp (n := (i + 2)) (by omega)]
    obtain ⟨fs2, hq2⟩ := hM.head
    refine J_cVb (ci := 9) (As := [.int (xs (i + 1)), .int (xs (i + 2))]) (st := []) (rc2 := (rc + 14)) (rs2 := (rs + 2988)) (w0 := w2) C iL_law_1123 lm_L_187 yc_X10_shadowOf yv_X10_shadowOf (n_X10_shadowOf hM) rfl rfl hq2 (wOu Z ou f9 ++ w11) [] (by simp only [List.append_nil]) rfl ⟨Nat.le_of_ble_eq_true rfl, Nat.le_of_ble_eq_true rfl⟩ (Nat.le_of_ble_eq_true rfl) (by show (rc + 14) = 0 + (rc + 14); omega) (by show (rs + 2988) = 0 + (rs + 2988); omega) ?_
    rintro _ w22 (⟨hc2, rfl, hM1⟩ | ⟨z9, hc2, rfl, hM1⟩)
    · exact absurd hc2 hc
    · refine J_st (.int z9 :: []) rfl ?_
      refine J_ws ((wOu Z ou f9 ++ w11) ++ w22) (by simp only [List.append_nil]) ?_
      refine J_istore [(6, .int z9), (5, .int ((if ¬ hasB (nI N) (xs (i + 1)) = true then 1 else (if ((xs (i + 2)) < 0 ∨ 24 ≤ (xs (i + 2))) then 1 else 0)) : Int32)), (4, .int (nI i)), (0, .ref b), (1, .ref (x 0)), (2, .ref (mo 0)), (3, .ref (ou 0))] C iL_law_1126 (by decide) rfl ?_
      refine J_aload_n C iL_law_1128 rfl rfl ?_
      obtain ⟨fs3, hq3⟩ := hM1.head
      refine J_cVb (ci := 9) (As := []) (st := []) (rc2 := (rc + 14)) (rs2 := (rs + 2988)) (w0 := w22) C iL_law_1129 lm_L_111 yc_X10_thrown yv_X10_thrown (n_X10_thrown hM1) rfl rfl hq3 (wOu Z ou f9 ++ w11) [] (by simp only [List.append_nil]) rfl ⟨Nat.le_of_ble_eq_true rfl, Nat.le_of_ble_eq_true rfl⟩ (Nat.le_of_ble_eq_true rfl) (by show (rc + 14) = 0 + (rc + 14); omega) (by show (rs + 2988) = 0 + (rs + 2988); omega) ?_
      rintro _ w23 ⟨rfl, hM2⟩
      refine J_st (.int ((if ¬ hasB (nI N) (xs (i + 1)) = true then 1 else (if ((xs (i + 2)) < 0 ∨ 24 ≤ (xs (i + 2))) then 1 else 0)) : Int32) :: []) rfl ?_
      refine J_ws ((wOu Z ou f9 ++ w11) ++ w23) (by simp only [List.append_nil]) ?_
      refine J_iload C iL_law_1132 rfl ?_
      refine J_icmpeq 1139 C iL_law_1134 rfl (fun h1134 => ?_) (fun h1134 => absurd rfl h1134)
      refine J_iload C iL_law_1139 rfl ?_
      refine J_ifne 1156 C iL_law_1141 rfl (fun h1141 => ?_) (fun h1141 => absurd h1141 hc)
      refine J_goto 2021 C iL_law_1156 rfl ?_
      refine J_lvm [(4, .int (nI i)), (0, .ref b), (1, .ref (x 0)), (2, .ref (mo 0)), (3, .ref (ou 0))] rfl ?_
      refine J_less rc rs (by omega) (by omega) ?_
      exact next _ ⟨f9, w11, w23, _, _, _, _, _, _, _, _, _, _, _, _, _, _, _, _, _, _, _, _, _, rfl, hC1, hM2⟩

set_option maxRecDepth 100000 in
set_option maxHeartbeats 4000000 in
/-- case 22: shades -/
theorem law_22 {Z : GZ} {X : CX} {Q : State → Prop} {rc rs : Nat} (C : Cx Z X cL_law 9 RL) (hV : VN (cS X)) (hl : (cL X).stackTraces = false) {b L i : Nat} {xs : Nat → Int32} (S : Sc X b L xs) (hL : L ≤ 3072) (hi : i + 6 ≤ L) {x mo ou : Nat → Nat} {f : Nat → Int64} {w1 w2 : va_W} {th : Int32} {N u tm : Nat} {er dg co : Int32} {pP pH pF pT op f1 f2 l0 tb : Nat → Int32} {hh c0 c1 c2 c3 : Nat → Nat} (hC : CI Z x N u tm er dg co pP pH pF pT op f1 f2 l0 hh c0 c1 c2 c3 tb w1) (hM : MI Z mo th N u tm er dg co pP pH pF pT op f1 f2 l0 hh c0 c1 c2 c3 tb w2) (next : ∀ w9, LI Z x mo ou w9 → Jd Z X room_1 9 Q rc rs 2021 [(4, .int (nI i)), (0, .ref b), (1, .ref (x 0)), (2, .ref (mo 0)), (3, .ref (ou 0))] [] w9) : Jd Z X room_1 9 Q (rc + 16) (rs + 3000) 1159 [(4, .int (nI i)), (0, .ref b), (1, .ref (x 0)), (2, .ref (mo 0)), (3, .ref (ou 0))] [] ((wOu Z ou f ++ w1) ++ w2) := by
  refine J_aload_n C iL_law_1159 rfl rfl ?_
  refine J_aload_n C iL_law_1160 rfl rfl ?_
  refine J_iload C iL_law_1161 rfl ?_
  refine J_iconst 1 C iL_law_1163 rfl ?_
  refine J_iadd C iL_law_1164 ?_
  rw [show (nI i) + 1 = nI (i + 1) from nI_add _ _]
  refine J_sld C S iL_law_1165 (vp_in_nI (n := (i + 1)) (by omega) (by omega)) ?_
  rw [nI_clamp (n := (i + 1)) (by omega)]
  refine J_aload_n C iL_law_1166 rfl rfl ?_
  refine J_iload C iL_law_1167 rfl ?_
  refine J_iconst 2 C iL_law_1169 rfl ?_
  refine J_iadd C iL_law_1170 ?_
  rw [show (nI i) + 2 = nI (i + 2) from nI_add _ _]
  refine J_sld C S iL_law_1171 (vp_in_nI (n := (i + 2)) (by omega) (by omega)) ?_
  rw [nI_clamp (n := (i + 2)) (by omega)]
  refine J_aload_n C iL_law_1172 rfl rfl ?_
  refine J_iload C iL_law_1173 rfl ?_
  refine J_iconst 3 C iL_law_1175 rfl ?_
  refine J_iadd C iL_law_1176 ?_
  rw [show (nI i) + 3 = nI (i + 3) from nI_add _ _]
  refine J_sld C S iL_law_1177 (vp_in_nI (n := (i + 3)) (by omega) (by omega)) ?_
  rw [nI_clamp (n := (i + 3)) (by omega)]
  refine J_aload_n C iL_law_1178 rfl rfl ?_
  refine J_cSL (As := [.ref (x 0), .int (xs (i + 1)), .int (xs (i + 2)), .int (xs (i + 3)), .ref (ou 0)]) (st := []) (rc2 := (rc + 13)) (rs2 := (rs + 2982)) (w0 := wOu Z ou f ++ w1) C hV iL_law_1179 lm_L_188 ycw_L_shades ys_L_shades (k_shades hl hC) [] w2 rfl rfl ⟨Nat.le_of_ble_eq_true rfl, Nat.le_of_ble_eq_true rfl⟩ (Nat.le_of_ble_eq_true rfl) (by show (rc + 16) = 3 + (rc + 13); omega) (by show (rs + 3000) = 18 + (rs + 2982); omega) ?_
  rintro _ w10 ⟨rfl, f9, w11, rfl, ⟨hc, hv, hC1⟩ | ⟨hc, hC1⟩⟩
  · refine J_st (.int ((if ¬ hasB (nI N) (xs (i + 1)) = true then 1 else (if ¬ hasB (nI N) (xs (i + 2)) = true then 1 else (if ((xs (i + 3)) < 0 ∨ 24 ≤ (xs (i + 3))) then 1 else 0))) : Int32) :: []) rfl ?_
    refine J_ws ((wOu Z ou f9 ++ w11) ++ w2) rfl ?_
    refine J_istore [(5, .int ((if ¬ hasB (nI N) (xs (i + 1)) = true then 1 else (if ¬ hasB (nI N) (xs (i + 2)) = true then 1 else (if ((xs (i + 3)) < 0 ∨ 24 ≤ (xs (i + 3))) then 1 else 0))) : Int32)), (4, .int (nI i)), (0, .ref b), (1, .ref (x 0)), (2, .ref (mo 0)), (3, .ref (ou 0))] C iL_law_1182 (by decide) rfl ?_
    refine J_aload_n C iL_law_1184 rfl rfl ?_
    refine J_aload_n C iL_law_1185 rfl rfl ?_
    refine J_iload C iL_law_1186 rfl ?_
    refine J_iconst 1 C iL_law_1188 rfl ?_
    refine J_iadd C iL_law_1189 ?_
    rw [show (nI i) + 1 = nI (i + 1) from nI_add _ _]
    refine J_sld C S iL_law_1190 (vp_in_nI (n := (i + 1)) (by omega) (by omega)) ?_
    rw [nI_clamp (n := (i + 1)) (by omega)]
    refine J_aload_n C iL_law_1191 rfl rfl ?_
    refine J_iload C iL_law_1192 rfl ?_
    refine J_iconst 2 C iL_law_1194 rfl ?_
    refine J_iadd C iL_law_1195 ?_
    rw [show (nI i) + 2 = nI (i + 2) from nI_add _ _]
    refine J_sld C S iL_law_1196 (vp_in_nI (n := (i + 2)) (by omega) (by omega)) ?_
    rw [nI_clamp (n := (i + 2)) (by omega)]
    refine J_aload_n C iL_law_1197 rfl rfl ?_
    refine J_iload C iL_law_1198 rfl ?_
    refine J_iconst 3 C iL_law_1200 rfl ?_
    refine J_iadd C iL_law_1201 ?_
    rw [show (nI i) + 3 = nI (i + 3) from nI_add _ _]
    refine J_sld C S iL_law_1202 (vp_in_nI (n := (i + 3)) (by omega) (by omega)) ?_
    rw [nI_clamp (n := (i + 3)) (by omega)]
    obtain ⟨fs2, hq2⟩ := hM.head
    refine J_cVb (ci := 9) (As := [.int (xs (i + 1)), .int (xs (i + 2)), .int (xs (i + 3))]) (st := []) (rc2 := (rc + 13)) (rs2 := (rs + 2982)) (w0 := w2) C iL_law_1203 lm_L_191 yc_X10_shades yv_X10_shades (n_X10_shades hM) rfl rfl hq2 (wOu Z ou f9 ++ w11) [] (by simp only [List.append_nil]) rfl ⟨Nat.le_of_ble_eq_true rfl, Nat.le_of_ble_eq_true rfl⟩ (Nat.le_of_ble_eq_true rfl) (by show (rc + 13) = 0 + (rc + 13); omega) (by show (rs + 2982) = 0 + (rs + 2982); omega) ?_
    rintro _ w22 (⟨hc2, rfl, hM1⟩ | ⟨z9, hc2, rfl, hM1⟩)
    · refine J_st (.int (b2i (hhX (shX N pP pH pF pT (xs (i + 2)) (xs (i + 1))) (xs (i + 3)))) :: []) rfl ?_
      refine J_ws ((wOu Z ou f9 ++ w11) ++ w22) (by simp only [List.append_nil]) ?_
      refine J_istore [(6, .int (b2i (hhX (shX N pP pH pF pT (xs (i + 2)) (xs (i + 1))) (xs (i + 3))))), (5, .int ((if ¬ hasB (nI N) (xs (i + 1)) = true then 1 else (if ¬ hasB (nI N) (xs (i + 2)) = true then 1 else (if ((xs (i + 3)) < 0 ∨ 24 ≤ (xs (i + 3))) then 1 else 0))) : Int32)), (4, .int (nI i)), (0, .ref b), (1, .ref (x 0)), (2, .ref (mo 0)), (3, .ref (ou 0))] C iL_law_1206 (by decide) rfl ?_
      refine J_aload_n C iL_law_1208 rfl rfl ?_
      obtain ⟨fs3, hq3⟩ := hM1.head
      refine J_cVb (ci := 9) (As := []) (st := []) (rc2 := (rc + 13)) (rs2 := (rs + 2982)) (w0 := w22) C iL_law_1209 lm_L_111 yc_X10_thrown yv_X10_thrown (n_X10_thrown hM1) rfl rfl hq3 (wOu Z ou f9 ++ w11) [] (by simp only [List.append_nil]) rfl ⟨Nat.le_of_ble_eq_true rfl, Nat.le_of_ble_eq_true rfl⟩ (Nat.le_of_ble_eq_true rfl) (by show (rc + 13) = 0 + (rc + 13); omega) (by show (rs + 2982) = 0 + (rs + 2982); omega) ?_
      rintro _ w23 ⟨rfl, hM2⟩
      refine J_st (.int 0 :: []) rfl ?_
      refine J_ws ((wOu Z ou f9 ++ w11) ++ w23) (by simp only [List.append_nil]) ?_
      refine J_iload C iL_law_1212 rfl ?_
      refine J_icmpeq 1219 C iL_law_1214 rfl (fun h1214 => ?_) (fun h1214 => absurd hc.symm h1214)
      refine J_iload C iL_law_1219 rfl ?_
      refine J_ifne 1243 C iL_law_1221 rfl (fun h1221 => absurd hc h1221) (fun h1221 => ?_)
      refine J_aload_n C iL_law_1224 rfl rfl ?_
      refine J_iconst 0 C iL_law_1225 rfl ?_
      refine J_lald 0 C iL_law_1226 rfl (vp_in_nI (n := 0) (by omega) (by decide)) ?_
      rw [show Int32.toNatClampNeg 0 = 0 from rfl]
      refine J_iload C iL_law_1227 rfl ?_
      refine J_ifeqb 1236 C iL_law_1229 rfl (fun h1229 => ?_) (fun h1229 => ?_)
      · refine J_lconst 0 C iL_law_1236 rfl ?_
        refine J_lcmp C iL_law_1237 ?_
        refine J_ifeqL 1243 C iL_law_1238 rfl (fun h1238 => ?_) (fun h1238 => absurd (hv.trans (by rw [h1229]; rfl)) h1238)
        refine J_goto 2021 C iL_law_1243 rfl ?_
        refine J_lvm [(4, .int (nI i)), (0, .ref b), (1, .ref (x 0)), (2, .ref (mo 0)), (3, .ref (ou 0))] rfl ?_
        refine J_less rc rs (by omega) (by omega) ?_
        exact next _ ⟨f9, w11, w23, _, _, _, _, _, _, _, _, _, _, _, _, _, _, _, _, _, _, _, _, _, rfl, hC1, hM2⟩
      · refine J_lconst 1 C iL_law_1232 rfl ?_
        refine J_goto 1237 C iL_law_1233 rfl ?_
        refine J_lcmp C iL_law_1237 ?_
        refine J_ifeqL 1243 C iL_law_1238 rfl (fun h1238 => ?_) (fun h1238 => absurd (hv.trans (by rw [h1229]; rfl)) h1238)
        refine J_goto 2021 C iL_law_1243 rfl ?_
        refine J_lvm [(4, .int (nI i)), (0, .ref b), (1, .ref (x 0)), (2, .ref (mo 0)), (3, .ref (ou 0))] rfl ?_
        refine J_less rc rs (by omega) (by omega) ?_
        exact next _ ⟨f9, w11, w23, _, _, _, _, _, _, _, _, _, _, _, _, _, _, _, _, _, _, _, _, _, rfl, hC1, hM2⟩
    · exact absurd hc hc2
  · refine J_st (.int ((if ¬ hasB (nI N) (xs (i + 1)) = true then 1 else (if ¬ hasB (nI N) (xs (i + 2)) = true then 1 else (if ((xs (i + 3)) < 0 ∨ 24 ≤ (xs (i + 3))) then 1 else 0))) : Int32) :: []) rfl ?_
    refine J_ws ((wOu Z ou f9 ++ w11) ++ w2) rfl ?_
    refine J_istore [(5, .int ((if ¬ hasB (nI N) (xs (i + 1)) = true then 1 else (if ¬ hasB (nI N) (xs (i + 2)) = true then 1 else (if ((xs (i + 3)) < 0 ∨ 24 ≤ (xs (i + 3))) then 1 else 0))) : Int32)), (4, .int (nI i)), (0, .ref b), (1, .ref (x 0)), (2, .ref (mo 0)), (3, .ref (ou 0))] C iL_law_1182 (by decide) rfl ?_
    refine J_aload_n C iL_law_1184 rfl rfl ?_
    refine J_aload_n C iL_law_1185 rfl rfl ?_
    refine J_iload C iL_law_1186 rfl ?_
    refine J_iconst 1 C iL_law_1188 rfl ?_
    refine J_iadd C iL_law_1189 ?_
    rw [show (nI i) + 1 = nI (i + 1) from nI_add _ _]
    refine J_sld C S iL_law_1190 (vp_in_nI (n := (i + 1)) (by omega) (by omega)) ?_
    rw [nI_clamp (n := (i + 1)) (by omega)]
    refine J_aload_n C iL_law_1191 rfl rfl ?_
    refine J_iload C iL_law_1192 rfl ?_
    refine J_iconst 2 C iL_law_1194 rfl ?_
    refine J_iadd C iL_law_1195 ?_
    rw [show (nI i) + 2 = nI (i + 2) from nI_add _ _]
    refine J_sld C S iL_law_1196 (vp_in_nI (n := (i + 2)) (by omega) (by omega)) ?_
    rw [nI_clamp (n := (i + 2)) (by omega)]
    refine J_aload_n C iL_law_1197 rfl rfl ?_
    refine J_iload C iL_law_1198 rfl ?_
    refine J_iconst 3 C iL_law_1200 rfl ?_
    refine J_iadd C iL_law_1201 ?_
    rw [show (nI i) + 3 = nI (i + 3) from nI_add _ _]
    refine J_sld C S iL_law_1202 (vp_in_nI (n := (i + 3)) (by omega) (by omega)) ?_
    rw [nI_clamp (n := (i + 3)) (by omega)]
    obtain ⟨fs2, hq2⟩ := hM.head
    refine J_cVb (ci := 9) (As := [.int (xs (i + 1)), .int (xs (i + 2)), .int (xs (i + 3))]) (st := []) (rc2 := (rc + 13)) (rs2 := (rs + 2982)) (w0 := w2) C iL_law_1203 lm_L_191 yc_X10_shades yv_X10_shades (n_X10_shades hM) rfl rfl hq2 (wOu Z ou f9 ++ w11) [] (by simp only [List.append_nil]) rfl ⟨Nat.le_of_ble_eq_true rfl, Nat.le_of_ble_eq_true rfl⟩ (Nat.le_of_ble_eq_true rfl) (by show (rc + 13) = 0 + (rc + 13); omega) (by show (rs + 2982) = 0 + (rs + 2982); omega) ?_
    rintro _ w22 (⟨hc2, rfl, hM1⟩ | ⟨z9, hc2, rfl, hM1⟩)
    · exact absurd hc2 hc
    · refine J_st (.int (b2i z9) :: []) rfl ?_
      refine J_ws ((wOu Z ou f9 ++ w11) ++ w22) (by simp only [List.append_nil]) ?_
      refine J_istore [(6, .int (b2i z9)), (5, .int ((if ¬ hasB (nI N) (xs (i + 1)) = true then 1 else (if ¬ hasB (nI N) (xs (i + 2)) = true then 1 else (if ((xs (i + 3)) < 0 ∨ 24 ≤ (xs (i + 3))) then 1 else 0))) : Int32)), (4, .int (nI i)), (0, .ref b), (1, .ref (x 0)), (2, .ref (mo 0)), (3, .ref (ou 0))] C iL_law_1206 (by decide) rfl ?_
      refine J_aload_n C iL_law_1208 rfl rfl ?_
      obtain ⟨fs3, hq3⟩ := hM1.head
      refine J_cVb (ci := 9) (As := []) (st := []) (rc2 := (rc + 13)) (rs2 := (rs + 2982)) (w0 := w22) C iL_law_1209 lm_L_111 yc_X10_thrown yv_X10_thrown (n_X10_thrown hM1) rfl rfl hq3 (wOu Z ou f9 ++ w11) [] (by simp only [List.append_nil]) rfl ⟨Nat.le_of_ble_eq_true rfl, Nat.le_of_ble_eq_true rfl⟩ (Nat.le_of_ble_eq_true rfl) (by show (rc + 13) = 0 + (rc + 13); omega) (by show (rs + 2982) = 0 + (rs + 2982); omega) ?_
      rintro _ w23 ⟨rfl, hM2⟩
      refine J_st (.int ((if ¬ hasB (nI N) (xs (i + 1)) = true then 1 else (if ¬ hasB (nI N) (xs (i + 2)) = true then 1 else (if ((xs (i + 3)) < 0 ∨ 24 ≤ (xs (i + 3))) then 1 else 0))) : Int32) :: []) rfl ?_
      refine J_ws ((wOu Z ou f9 ++ w11) ++ w23) (by simp only [List.append_nil]) ?_
      refine J_iload C iL_law_1212 rfl ?_
      refine J_icmpeq 1219 C iL_law_1214 rfl (fun h1214 => ?_) (fun h1214 => absurd rfl h1214)
      refine J_iload C iL_law_1219 rfl ?_
      refine J_ifne 1243 C iL_law_1221 rfl (fun h1221 => ?_) (fun h1221 => absurd h1221 hc)
      refine J_goto 2021 C iL_law_1243 rfl ?_
      refine J_lvm [(4, .int (nI i)), (0, .ref b), (1, .ref (x 0)), (2, .ref (mo 0)), (3, .ref (ou 0))] rfl ?_
      refine J_less rc rs (by omega) (by omega) ?_
      exact next _ ⟨f9, w11, w23, _, _, _, _, _, _, _, _, _, _, _, _, _, _, _, _, _, _, _, _, _, rfl, hC1, hM2⟩

set_option maxRecDepth 100000 in
set_option maxHeartbeats 4000000 in
/-- case 23: isInTheDark -/
theorem law_23 {Z : GZ} {X : CX} {Q : State → Prop} {rc rs : Nat} (C : Cx Z X cL_law 9 RL) (hV : VN (cS X)) (hl : (cL X).stackTraces = false) {b L i : Nat} {xs : Nat → Int32} (S : Sc X b L xs) (hL : L ≤ 3072) (hi : i + 6 ≤ L) {x mo ou : Nat → Nat} {f : Nat → Int64} {w1 w2 : va_W} {th : Int32} {N u tm : Nat} {er dg co : Int32} {pP pH pF pT op f1 f2 l0 tb : Nat → Int32} {hh c0 c1 c2 c3 : Nat → Nat} (hC : CI Z x N u tm er dg co pP pH pF pT op f1 f2 l0 hh c0 c1 c2 c3 tb w1) (hM : MI Z mo th N u tm er dg co pP pH pF pT op f1 f2 l0 hh c0 c1 c2 c3 tb w2) (next : ∀ w9, LI Z x mo ou w9 → Jd Z X room_1 9 Q rc rs 2021 [(4, .int (nI i)), (0, .ref b), (1, .ref (x 0)), (2, .ref (mo 0)), (3, .ref (ou 0))] [] w9) : Jd Z X room_1 9 Q (rc + 16) (rs + 3000) 1246 [(4, .int (nI i)), (0, .ref b), (1, .ref (x 0)), (2, .ref (mo 0)), (3, .ref (ou 0))] [] ((wOu Z ou f ++ w1) ++ w2) := by
  refine J_aload_n C iL_law_1246 rfl rfl ?_
  refine J_aload_n C iL_law_1247 rfl rfl ?_
  refine J_iload C iL_law_1248 rfl ?_
  refine J_iconst 1 C iL_law_1250 rfl ?_
  refine J_iadd C iL_law_1251 ?_
  rw [show (nI i) + 1 = nI (i + 1) from nI_add _ _]
  refine J_sld C S iL_law_1252 (vp_in_nI (n := (i + 1)) (by omega) (by omega)) ?_
  rw [nI_clamp (n := (i + 1)) (by omega)]
  refine J_aload_n C iL_law_1253 rfl rfl ?_
  refine J_iload C iL_law_1254 rfl ?_
  refine J_iconst 2 C iL_law_1256 rfl ?_
  refine J_iadd C iL_law_1257 ?_
  rw [show (nI i) + 2 = nI (i + 2) from nI_add _ _]
  refine J_sld C S iL_law_1258 (vp_in_nI (n := (i + 2)) (by omega) (by omega)) ?_
  rw [nI_clamp (n := (i + 2)) (by omega)]
  refine J_aload_n C iL_law_1259 rfl rfl ?_
  refine J_cSL (As := [.ref (x 0), .int (xs (i + 1)), .int (xs (i + 2)), .ref (ou 0)]) (st := []) (rc2 := (rc + 14)) (rs2 := (rs + 2988)) (w0 := wOu Z ou f ++ w1) C hV iL_law_1260 lm_L_192 ycw_L_isInTheDark ys_L_isInTheDark (k_isInTheDark hl hC) [] w2 rfl rfl ⟨Nat.le_of_ble_eq_true rfl, Nat.le_of_ble_eq_true rfl⟩ (Nat.le_of_ble_eq_true rfl) (by show (rc + 16) = 2 + (rc + 14); omega) (by show (rs + 3000) = 12 + (rs + 2988); omega) ?_
  rintro _ w10 ⟨rfl, f9, w11, rfl, ⟨hc, hv, hC1⟩ | ⟨hc, hC1⟩⟩
  · refine J_st (.int ((if ¬ hasB (nI N) (xs (i + 1)) = true then 1 else (if ((xs (i + 2)) < 0 ∨ 24 ≤ (xs (i + 2))) then 1 else 0)) : Int32) :: []) rfl ?_
    refine J_ws ((wOu Z ou f9 ++ w11) ++ w2) rfl ?_
    refine J_istore [(5, .int ((if ¬ hasB (nI N) (xs (i + 1)) = true then 1 else (if ((xs (i + 2)) < 0 ∨ 24 ≤ (xs (i + 2))) then 1 else 0)) : Int32)), (4, .int (nI i)), (0, .ref b), (1, .ref (x 0)), (2, .ref (mo 0)), (3, .ref (ou 0))] C iL_law_1263 (by decide) rfl ?_
    refine J_aload_n C iL_law_1265 rfl rfl ?_
    refine J_aload_n C iL_law_1266 rfl rfl ?_
    refine J_iload C iL_law_1267 rfl ?_
    refine J_iconst 1 C iL_law_1269 rfl ?_
    refine J_iadd C iL_law_1270 ?_
    rw [show (nI i) + 1 = nI (i + 1) from nI_add _ _]
    refine J_sld C S iL_law_1271 (vp_in_nI (n := (i + 1)) (by omega) (by omega)) ?_
    rw [nI_clamp (n := (i + 1)) (by omega)]
    refine J_aload_n C iL_law_1272 rfl rfl ?_
    refine J_iload C iL_law_1273 rfl ?_
    refine J_iconst 2 C iL_law_1275 rfl ?_
    refine J_iadd C iL_law_1276 ?_
    rw [show (nI i) + 2 = nI (i + 2) from nI_add _ _]
    refine J_sld C S iL_law_1277 (vp_in_nI (n := (i + 2)) (by omega) (by omega)) ?_
    rw [nI_clamp (n := (i + 2)) (by omega)]
    obtain ⟨fs2, hq2⟩ := hM.head
    refine J_cVb (ci := 9) (As := [.int (xs (i + 1)), .int (xs (i + 2))]) (st := []) (rc2 := (rc + 14)) (rs2 := (rs + 2988)) (w0 := w2) C iL_law_1278 lm_L_194 yc_X10_isInTheDark yv_X10_isInTheDark (n_X10_isInTheDark hM) rfl rfl hq2 (wOu Z ou f9 ++ w11) [] (by simp only [List.append_nil]) rfl ⟨Nat.le_of_ble_eq_true rfl, Nat.le_of_ble_eq_true rfl⟩ (Nat.le_of_ble_eq_true rfl) (by show (rc + 14) = 0 + (rc + 14); omega) (by show (rs + 2988) = 0 + (rs + 2988); omega) ?_
    rintro _ w22 (⟨hc2, rfl, hM1⟩ | ⟨z9, hc2, rfl, hM1⟩)
    · refine J_st (.int (b2i (hhX (stAt (nI N) (xs (i + 1)) (dkG N pP pH pF pT) 0) (xs (i + 2)))) :: []) rfl ?_
      refine J_ws ((wOu Z ou f9 ++ w11) ++ w22) (by simp only [List.append_nil]) ?_
      refine J_istore [(6, .int (b2i (hhX (stAt (nI N) (xs (i + 1)) (dkG N pP pH pF pT) 0) (xs (i + 2))))), (5, .int ((if ¬ hasB (nI N) (xs (i + 1)) = true then 1 else (if ((xs (i + 2)) < 0 ∨ 24 ≤ (xs (i + 2))) then 1 else 0)) : Int32)), (4, .int (nI i)), (0, .ref b), (1, .ref (x 0)), (2, .ref (mo 0)), (3, .ref (ou 0))] C iL_law_1281 (by decide) rfl ?_
      refine J_aload_n C iL_law_1283 rfl rfl ?_
      obtain ⟨fs3, hq3⟩ := hM1.head
      refine J_cVb (ci := 9) (As := []) (st := []) (rc2 := (rc + 14)) (rs2 := (rs + 2988)) (w0 := w22) C iL_law_1284 lm_L_111 yc_X10_thrown yv_X10_thrown (n_X10_thrown hM1) rfl rfl hq3 (wOu Z ou f9 ++ w11) [] (by simp only [List.append_nil]) rfl ⟨Nat.le_of_ble_eq_true rfl, Nat.le_of_ble_eq_true rfl⟩ (Nat.le_of_ble_eq_true rfl) (by show (rc + 14) = 0 + (rc + 14); omega) (by show (rs + 2988) = 0 + (rs + 2988); omega) ?_
      rintro _ w23 ⟨rfl, hM2⟩
      refine J_st (.int 0 :: []) rfl ?_
      refine J_ws ((wOu Z ou f9 ++ w11) ++ w23) (by simp only [List.append_nil]) ?_
      refine J_iload C iL_law_1287 rfl ?_
      refine J_icmpeq 1294 C iL_law_1289 rfl (fun h1289 => ?_) (fun h1289 => absurd hc.symm h1289)
      refine J_iload C iL_law_1294 rfl ?_
      refine J_ifne 1318 C iL_law_1296 rfl (fun h1296 => absurd hc h1296) (fun h1296 => ?_)
      refine J_aload_n C iL_law_1299 rfl rfl ?_
      refine J_iconst 0 C iL_law_1300 rfl ?_
      refine J_lald 0 C iL_law_1301 rfl (vp_in_nI (n := 0) (by omega) (by decide)) ?_
      rw [show Int32.toNatClampNeg 0 = 0 from rfl]
      refine J_iload C iL_law_1302 rfl ?_
      refine J_ifeqb 1311 C iL_law_1304 rfl (fun h1304 => ?_) (fun h1304 => ?_)
      · refine J_lconst 0 C iL_law_1311 rfl ?_
        refine J_lcmp C iL_law_1312 ?_
        refine J_ifeqL 1318 C iL_law_1313 rfl (fun h1313 => ?_) (fun h1313 => absurd (hv.trans (by rw [h1304]; rfl)) h1313)
        refine J_goto 2021 C iL_law_1318 rfl ?_
        refine J_lvm [(4, .int (nI i)), (0, .ref b), (1, .ref (x 0)), (2, .ref (mo 0)), (3, .ref (ou 0))] rfl ?_
        refine J_less rc rs (by omega) (by omega) ?_
        exact next _ ⟨f9, w11, w23, _, _, _, _, _, _, _, _, _, _, _, _, _, _, _, _, _, _, _, _, _, rfl, hC1, hM2⟩
      · refine J_lconst 1 C iL_law_1307 rfl ?_
        refine J_goto 1312 C iL_law_1308 rfl ?_
        refine J_lcmp C iL_law_1312 ?_
        refine J_ifeqL 1318 C iL_law_1313 rfl (fun h1313 => ?_) (fun h1313 => absurd (hv.trans (by rw [h1304]; rfl)) h1313)
        refine J_goto 2021 C iL_law_1318 rfl ?_
        refine J_lvm [(4, .int (nI i)), (0, .ref b), (1, .ref (x 0)), (2, .ref (mo 0)), (3, .ref (ou 0))] rfl ?_
        refine J_less rc rs (by omega) (by omega) ?_
        exact next _ ⟨f9, w11, w23, _, _, _, _, _, _, _, _, _, _, _, _, _, _, _, _, _, _, _, _, _, rfl, hC1, hM2⟩
    · exact absurd hc hc2
  · refine J_st (.int ((if ¬ hasB (nI N) (xs (i + 1)) = true then 1 else (if ((xs (i + 2)) < 0 ∨ 24 ≤ (xs (i + 2))) then 1 else 0)) : Int32) :: []) rfl ?_
    refine J_ws ((wOu Z ou f9 ++ w11) ++ w2) rfl ?_
    refine J_istore [(5, .int ((if ¬ hasB (nI N) (xs (i + 1)) = true then 1 else (if ((xs (i + 2)) < 0 ∨ 24 ≤ (xs (i + 2))) then 1 else 0)) : Int32)), (4, .int (nI i)), (0, .ref b), (1, .ref (x 0)), (2, .ref (mo 0)), (3, .ref (ou 0))] C iL_law_1263 (by decide) rfl ?_
    refine J_aload_n C iL_law_1265 rfl rfl ?_
    refine J_aload_n C iL_law_1266 rfl rfl ?_
    refine J_iload C iL_law_1267 rfl ?_
    refine J_iconst 1 C iL_law_1269 rfl ?_
    refine J_iadd C iL_law_1270 ?_
    rw [show (nI i) + 1 = nI (i + 1) from nI_add _ _]
    refine J_sld C S iL_law_1271 (vp_in_nI (n := (i + 1)) (by omega) (by omega)) ?_
    rw [nI_clamp (n := (i + 1)) (by omega)]
    refine J_aload_n C iL_law_1272 rfl rfl ?_
    refine J_iload C iL_law_1273 rfl ?_
    refine J_iconst 2 C iL_law_1275 rfl ?_
    refine J_iadd C iL_law_1276 ?_
    rw [show (nI i) + 2 = nI (i + 2) from nI_add _ _]
    refine J_sld C S iL_law_1277 (vp_in_nI (n := (i + 2)) (by omega) (by omega)) ?_
    rw [nI_clamp (n := (i + 2)) (by omega)]
    obtain ⟨fs2, hq2⟩ := hM.head
    refine J_cVb (ci := 9) (As := [.int (xs (i + 1)), .int (xs (i + 2))]) (st := []) (rc2 := (rc + 14)) (rs2 := (rs + 2988)) (w0 := w2) C iL_law_1278 lm_L_194 yc_X10_isInTheDark yv_X10_isInTheDark (n_X10_isInTheDark hM) rfl rfl hq2 (wOu Z ou f9 ++ w11) [] (by simp only [List.append_nil]) rfl ⟨Nat.le_of_ble_eq_true rfl, Nat.le_of_ble_eq_true rfl⟩ (Nat.le_of_ble_eq_true rfl) (by show (rc + 14) = 0 + (rc + 14); omega) (by show (rs + 2988) = 0 + (rs + 2988); omega) ?_
    rintro _ w22 (⟨hc2, rfl, hM1⟩ | ⟨z9, hc2, rfl, hM1⟩)
    · exact absurd hc2 hc
    · refine J_st (.int (b2i z9) :: []) rfl ?_
      refine J_ws ((wOu Z ou f9 ++ w11) ++ w22) (by simp only [List.append_nil]) ?_
      refine J_istore [(6, .int (b2i z9)), (5, .int ((if ¬ hasB (nI N) (xs (i + 1)) = true then 1 else (if ((xs (i + 2)) < 0 ∨ 24 ≤ (xs (i + 2))) then 1 else 0)) : Int32)), (4, .int (nI i)), (0, .ref b), (1, .ref (x 0)), (2, .ref (mo 0)), (3, .ref (ou 0))] C iL_law_1281 (by decide) rfl ?_
      refine J_aload_n C iL_law_1283 rfl rfl ?_
      obtain ⟨fs3, hq3⟩ := hM1.head
      refine J_cVb (ci := 9) (As := []) (st := []) (rc2 := (rc + 14)) (rs2 := (rs + 2988)) (w0 := w22) C iL_law_1284 lm_L_111 yc_X10_thrown yv_X10_thrown (n_X10_thrown hM1) rfl rfl hq3 (wOu Z ou f9 ++ w11) [] (by simp only [List.append_nil]) rfl ⟨Nat.le_of_ble_eq_true rfl, Nat.le_of_ble_eq_true rfl⟩ (Nat.le_of_ble_eq_true rfl) (by show (rc + 14) = 0 + (rc + 14); omega) (by show (rs + 2988) = 0 + (rs + 2988); omega) ?_
      rintro _ w23 ⟨rfl, hM2⟩
      refine J_st (.int ((if ¬ hasB (nI N) (xs (i + 1)) = true then 1 else (if ((xs (i + 2)) < 0 ∨ 24 ≤ (xs (i + 2))) then 1 else 0)) : Int32) :: []) rfl ?_
      refine J_ws ((wOu Z ou f9 ++ w11) ++ w23) (by simp only [List.append_nil]) ?_
      refine J_iload C iL_law_1287 rfl ?_
      refine J_icmpeq 1294 C iL_law_1289 rfl (fun h1289 => ?_) (fun h1289 => absurd rfl h1289)
      refine J_iload C iL_law_1294 rfl ?_
      refine J_ifne 1318 C iL_law_1296 rfl (fun h1296 => ?_) (fun h1296 => absurd h1296 hc)
      refine J_goto 2021 C iL_law_1318 rfl ?_
      refine J_lvm [(4, .int (nI i)), (0, .ref b), (1, .ref (x 0)), (2, .ref (mo 0)), (3, .ref (ou 0))] rfl ?_
      refine J_less rc rs (by omega) (by omega) ?_
      exact next _ ⟨f9, w11, w23, _, _, _, _, _, _, _, _, _, _, _, _, _, _, _, _, _, _, _, _, _, rfl, hC1, hM2⟩

set_option maxRecDepth 100000 in
set_option maxHeartbeats 4000000 in
/-- case 24: shadedBy -/
theorem law_24 {Z : GZ} {X : CX} {Q : State → Prop} {rc rs : Nat} (C : Cx Z X cL_law 9 RL) (hV : VN (cS X)) (hl : (cL X).stackTraces = false) {b L i : Nat} {xs : Nat → Int32} (S : Sc X b L xs) (hL : L ≤ 3072) (hi : i + 6 ≤ L) {x mo ou : Nat → Nat} {f : Nat → Int64} {w1 w2 : va_W} {th : Int32} {N u tm : Nat} {er dg co : Int32} {pP pH pF pT op f1 f2 l0 tb : Nat → Int32} {hh c0 c1 c2 c3 : Nat → Nat} (hC : CI Z x N u tm er dg co pP pH pF pT op f1 f2 l0 hh c0 c1 c2 c3 tb w1) (hM : MI Z mo th N u tm er dg co pP pH pF pT op f1 f2 l0 hh c0 c1 c2 c3 tb w2) (next : ∀ w9, LI Z x mo ou w9 → Jd Z X room_1 9 Q rc rs 2021 [(4, .int (nI i)), (0, .ref b), (1, .ref (x 0)), (2, .ref (mo 0)), (3, .ref (ou 0))] [] w9) : Jd Z X room_1 9 Q (rc + 16) (rs + 3000) 1321 [(4, .int (nI i)), (0, .ref b), (1, .ref (x 0)), (2, .ref (mo 0)), (3, .ref (ou 0))] [] ((wOu Z ou f ++ w1) ++ w2) := by
  refine J_aload_n C iL_law_1321 rfl rfl ?_
  refine J_aload_n C iL_law_1322 rfl rfl ?_
  refine J_iload C iL_law_1323 rfl ?_
  refine J_iconst 1 C iL_law_1325 rfl ?_
  refine J_iadd C iL_law_1326 ?_
  rw [show (nI i) + 1 = nI (i + 1) from nI_add _ _]
  refine J_sld C S iL_law_1327 (vp_in_nI (n := (i + 1)) (by omega) (by omega)) ?_
  rw [nI_clamp (n := (i + 1)) (by omega)]
  refine J_aload_n C iL_law_1328 rfl rfl ?_
  refine J_iload C iL_law_1329 rfl ?_
  refine J_iconst 2 C iL_law_1331 rfl ?_
  refine J_iadd C iL_law_1332 ?_
  rw [show (nI i) + 2 = nI (i + 2) from nI_add _ _]
  refine J_sld C S iL_law_1333 (vp_in_nI (n := (i + 2)) (by omega) (by omega)) ?_
  rw [nI_clamp (n := (i + 2)) (by omega)]
  refine J_aload_n C iL_law_1334 rfl rfl ?_
  refine J_cSL (As := [.ref (x 0), .int (xs (i + 1)), .int (xs (i + 2)), .ref (ou 0)]) (st := []) (rc2 := (rc + 13)) (rs2 := (rs + 2982)) (w0 := wOu Z ou f ++ w1) C hV iL_law_1335 lm_L_195 ycw_L_shadedBy ys_L_shadedBy (k_shadedBy hl hC) [] w2 rfl rfl ⟨Nat.le_of_ble_eq_true rfl, Nat.le_of_ble_eq_true rfl⟩ (Nat.le_of_ble_eq_true rfl) (by show (rc + 16) = 3 + (rc + 13); omega) (by show (rs + 3000) = 18 + (rs + 2982); omega) ?_
  rintro _ w10 ⟨rfl, f9, w11, rfl, ⟨hc, hv, hC1⟩ | ⟨hc, hC1⟩⟩
  · refine J_st (.int ((if ¬ hasB (nI N) (xs (i + 1)) = true then 1 else (if ((xs (i + 2)) < 0 ∨ 24 ≤ (xs (i + 2))) then 1 else (if hhX (stAt (nI N) (xs (i + 1)) (dkG N pP pH pF pT) 0) (xs (i + 2)) = false then 2 else 0))) : Int32) :: []) rfl ?_
    refine J_ws ((wOu Z ou f9 ++ w11) ++ w2) rfl ?_
    refine J_istore [(5, .int ((if ¬ hasB (nI N) (xs (i + 1)) = true then 1 else (if ((xs (i + 2)) < 0 ∨ 24 ≤ (xs (i + 2))) then 1 else (if hhX (stAt (nI N) (xs (i + 1)) (dkG N pP pH pF pT) 0) (xs (i + 2)) = false then 2 else 0))) : Int32)), (4, .int (nI i)), (0, .ref b), (1, .ref (x 0)), (2, .ref (mo 0)), (3, .ref (ou 0))] C iL_law_1338 (by decide) rfl ?_
    refine J_aload_n C iL_law_1340 rfl rfl ?_
    refine J_aload_n C iL_law_1341 rfl rfl ?_
    refine J_iload C iL_law_1342 rfl ?_
    refine J_iconst 1 C iL_law_1344 rfl ?_
    refine J_iadd C iL_law_1345 ?_
    rw [show (nI i) + 1 = nI (i + 1) from nI_add _ _]
    refine J_sld C S iL_law_1346 (vp_in_nI (n := (i + 1)) (by omega) (by omega)) ?_
    rw [nI_clamp (n := (i + 1)) (by omega)]
    refine J_aload_n C iL_law_1347 rfl rfl ?_
    refine J_iload C iL_law_1348 rfl ?_
    refine J_iconst 2 C iL_law_1350 rfl ?_
    refine J_iadd C iL_law_1351 ?_
    rw [show (nI i) + 2 = nI (i + 2) from nI_add _ _]
    refine J_sld C S iL_law_1352 (vp_in_nI (n := (i + 2)) (by omega) (by omega)) ?_
    rw [nI_clamp (n := (i + 2)) (by omega)]
    obtain ⟨fs2, hq2⟩ := hM.head
    refine J_cVb (ci := 9) (As := [.int (xs (i + 1)), .int (xs (i + 2))]) (st := []) (rc2 := (rc + 13)) (rs2 := (rs + 2982)) (w0 := w2) C iL_law_1353 lm_L_197 yc_X10_shadedBy yv_X10_shadedBy (n_X10_shadedBy hM) rfl rfl hq2 (wOu Z ou f9 ++ w11) [] (by simp only [List.append_nil]) rfl ⟨Nat.le_of_ble_eq_true rfl, Nat.le_of_ble_eq_true rfl⟩ (Nat.le_of_ble_eq_true rfl) (by show (rc + 13) = 0 + (rc + 13); omega) (by show (rs + 2982) = 0 + (rs + 2982); omega) ?_
    rintro _ w22 (⟨hc2, rfl, hM1⟩ | ⟨z9, hc2, rfl, hM1⟩)
    · refine J_st (.int (oN (sbM pP (fun k => shH pP pH pF pT (xs (i + 1)).toNatClampNeg k) (xs (i + 1)).toNatClampNeg (xs (i + 2)) N)) :: []) rfl ?_
      refine J_ws ((wOu Z ou f9 ++ w11) ++ w22) (by simp only [List.append_nil]) ?_
      refine J_istore [(6, .int (oN (sbM pP (fun k => shH pP pH pF pT (xs (i + 1)).toNatClampNeg k) (xs (i + 1)).toNatClampNeg (xs (i + 2)) N))), (5, .int ((if ¬ hasB (nI N) (xs (i + 1)) = true then 1 else (if ((xs (i + 2)) < 0 ∨ 24 ≤ (xs (i + 2))) then 1 else (if hhX (stAt (nI N) (xs (i + 1)) (dkG N pP pH pF pT) 0) (xs (i + 2)) = false then 2 else 0))) : Int32)), (4, .int (nI i)), (0, .ref b), (1, .ref (x 0)), (2, .ref (mo 0)), (3, .ref (ou 0))] C iL_law_1356 (by decide) rfl ?_
      refine J_aload_n C iL_law_1358 rfl rfl ?_
      obtain ⟨fs3, hq3⟩ := hM1.head
      refine J_cVb (ci := 9) (As := []) (st := []) (rc2 := (rc + 13)) (rs2 := (rs + 2982)) (w0 := w22) C iL_law_1359 lm_L_111 yc_X10_thrown yv_X10_thrown (n_X10_thrown hM1) rfl rfl hq3 (wOu Z ou f9 ++ w11) [] (by simp only [List.append_nil]) rfl ⟨Nat.le_of_ble_eq_true rfl, Nat.le_of_ble_eq_true rfl⟩ (Nat.le_of_ble_eq_true rfl) (by show (rc + 13) = 0 + (rc + 13); omega) (by show (rs + 2982) = 0 + (rs + 2982); omega) ?_
      rintro _ w23 ⟨rfl, hM2⟩
      refine J_st (.int 0 :: []) rfl ?_
      refine J_ws ((wOu Z ou f9 ++ w11) ++ w23) (by simp only [List.append_nil]) ?_
      refine J_iload C iL_law_1362 rfl ?_
      refine J_icmpeq 1369 C iL_law_1364 rfl (fun h1364 => ?_) (fun h1364 => absurd hc.symm h1364)
      refine J_iload C iL_law_1369 rfl ?_
      refine J_ifne 1386 C iL_law_1371 rfl (fun h1371 => absurd hc h1371) (fun h1371 => ?_)
      refine J_aload_n C iL_law_1374 rfl rfl ?_
      refine J_iconst 0 C iL_law_1375 rfl ?_
      refine J_lald 0 C iL_law_1376 rfl (vp_in_nI (n := 0) (by omega) (by decide)) ?_
      rw [show Int32.toNatClampNeg 0 = 0 from rfl]
      refine J_iload C iL_law_1377 rfl ?_
      refine J_i2l C iL_law_1379 ?_
      refine J_lcmp C iL_law_1380 ?_
      refine J_ifeqL 1386 C iL_law_1381 rfl (fun h1381 => ?_) (fun h1381 => absurd hv h1381)
      refine J_goto 2021 C iL_law_1386 rfl ?_
      refine J_lvm [(4, .int (nI i)), (0, .ref b), (1, .ref (x 0)), (2, .ref (mo 0)), (3, .ref (ou 0))] rfl ?_
      refine J_less rc rs (by omega) (by omega) ?_
      exact next _ ⟨f9, w11, w23, _, _, _, _, _, _, _, _, _, _, _, _, _, _, _, _, _, _, _, _, _, rfl, hC1, hM2⟩
    · exact absurd hc hc2
  · refine J_st (.int ((if ¬ hasB (nI N) (xs (i + 1)) = true then 1 else (if ((xs (i + 2)) < 0 ∨ 24 ≤ (xs (i + 2))) then 1 else (if hhX (stAt (nI N) (xs (i + 1)) (dkG N pP pH pF pT) 0) (xs (i + 2)) = false then 2 else 0))) : Int32) :: []) rfl ?_
    refine J_ws ((wOu Z ou f9 ++ w11) ++ w2) rfl ?_
    refine J_istore [(5, .int ((if ¬ hasB (nI N) (xs (i + 1)) = true then 1 else (if ((xs (i + 2)) < 0 ∨ 24 ≤ (xs (i + 2))) then 1 else (if hhX (stAt (nI N) (xs (i + 1)) (dkG N pP pH pF pT) 0) (xs (i + 2)) = false then 2 else 0))) : Int32)), (4, .int (nI i)), (0, .ref b), (1, .ref (x 0)), (2, .ref (mo 0)), (3, .ref (ou 0))] C iL_law_1338 (by decide) rfl ?_
    refine J_aload_n C iL_law_1340 rfl rfl ?_
    refine J_aload_n C iL_law_1341 rfl rfl ?_
    refine J_iload C iL_law_1342 rfl ?_
    refine J_iconst 1 C iL_law_1344 rfl ?_
    refine J_iadd C iL_law_1345 ?_
    rw [show (nI i) + 1 = nI (i + 1) from nI_add _ _]
    refine J_sld C S iL_law_1346 (vp_in_nI (n := (i + 1)) (by omega) (by omega)) ?_
    rw [nI_clamp (n := (i + 1)) (by omega)]
    refine J_aload_n C iL_law_1347 rfl rfl ?_
    refine J_iload C iL_law_1348 rfl ?_
    refine J_iconst 2 C iL_law_1350 rfl ?_
    refine J_iadd C iL_law_1351 ?_
    rw [show (nI i) + 2 = nI (i + 2) from nI_add _ _]
    refine J_sld C S iL_law_1352 (vp_in_nI (n := (i + 2)) (by omega) (by omega)) ?_
    rw [nI_clamp (n := (i + 2)) (by omega)]
    obtain ⟨fs2, hq2⟩ := hM.head
    refine J_cVb (ci := 9) (As := [.int (xs (i + 1)), .int (xs (i + 2))]) (st := []) (rc2 := (rc + 13)) (rs2 := (rs + 2982)) (w0 := w2) C iL_law_1353 lm_L_197 yc_X10_shadedBy yv_X10_shadedBy (n_X10_shadedBy hM) rfl rfl hq2 (wOu Z ou f9 ++ w11) [] (by simp only [List.append_nil]) rfl ⟨Nat.le_of_ble_eq_true rfl, Nat.le_of_ble_eq_true rfl⟩ (Nat.le_of_ble_eq_true rfl) (by show (rc + 13) = 0 + (rc + 13); omega) (by show (rs + 2982) = 0 + (rs + 2982); omega) ?_
    rintro _ w22 (⟨hc2, rfl, hM1⟩ | ⟨z9, hc2, rfl, hM1⟩)
    · exact absurd hc2 hc
    · refine J_st (.int z9 :: []) rfl ?_
      refine J_ws ((wOu Z ou f9 ++ w11) ++ w22) (by simp only [List.append_nil]) ?_
      refine J_istore [(6, .int z9), (5, .int ((if ¬ hasB (nI N) (xs (i + 1)) = true then 1 else (if ((xs (i + 2)) < 0 ∨ 24 ≤ (xs (i + 2))) then 1 else (if hhX (stAt (nI N) (xs (i + 1)) (dkG N pP pH pF pT) 0) (xs (i + 2)) = false then 2 else 0))) : Int32)), (4, .int (nI i)), (0, .ref b), (1, .ref (x 0)), (2, .ref (mo 0)), (3, .ref (ou 0))] C iL_law_1356 (by decide) rfl ?_
      refine J_aload_n C iL_law_1358 rfl rfl ?_
      obtain ⟨fs3, hq3⟩ := hM1.head
      refine J_cVb (ci := 9) (As := []) (st := []) (rc2 := (rc + 13)) (rs2 := (rs + 2982)) (w0 := w22) C iL_law_1359 lm_L_111 yc_X10_thrown yv_X10_thrown (n_X10_thrown hM1) rfl rfl hq3 (wOu Z ou f9 ++ w11) [] (by simp only [List.append_nil]) rfl ⟨Nat.le_of_ble_eq_true rfl, Nat.le_of_ble_eq_true rfl⟩ (Nat.le_of_ble_eq_true rfl) (by show (rc + 13) = 0 + (rc + 13); omega) (by show (rs + 2982) = 0 + (rs + 2982); omega) ?_
      rintro _ w23 ⟨rfl, hM2⟩
      refine J_st (.int ((if ¬ hasB (nI N) (xs (i + 1)) = true then 1 else (if ((xs (i + 2)) < 0 ∨ 24 ≤ (xs (i + 2))) then 1 else (if hhX (stAt (nI N) (xs (i + 1)) (dkG N pP pH pF pT) 0) (xs (i + 2)) = false then 2 else 0))) : Int32) :: []) rfl ?_
      refine J_ws ((wOu Z ou f9 ++ w11) ++ w23) (by simp only [List.append_nil]) ?_
      refine J_iload C iL_law_1362 rfl ?_
      refine J_icmpeq 1369 C iL_law_1364 rfl (fun h1364 => ?_) (fun h1364 => absurd rfl h1364)
      refine J_iload C iL_law_1369 rfl ?_
      refine J_ifne 1386 C iL_law_1371 rfl (fun h1371 => ?_) (fun h1371 => absurd h1371 hc)
      refine J_goto 2021 C iL_law_1386 rfl ?_
      refine J_lvm [(4, .int (nI i)), (0, .ref b), (1, .ref (x 0)), (2, .ref (mo 0)), (3, .ref (ou 0))] rfl ?_
      refine J_less rc rs (by omega) (by omega) ?_
      exact next _ ⟨f9, w11, w23, _, _, _, _, _, _, _, _, _, _, _, _, _, _, _, _, _, _, _, _, _, rfl, hC1, hM2⟩

set_option maxRecDepth 100000 in
set_option maxHeartbeats 4000000 in
/-- case 25: housesInTheDark -/
theorem law_25 {Z : GZ} {X : CX} {Q : State → Prop} {rc rs : Nat} (C : Cx Z X cL_law 9 RL) (hV : VN (cS X)) (hl : (cL X).stackTraces = false) {b L i : Nat} {xs : Nat → Int32} (S : Sc X b L xs) (hL : L ≤ 3072) (hi : i + 6 ≤ L) {x mo ou : Nat → Nat} {f : Nat → Int64} {w1 w2 : va_W} {th : Int32} {N u tm : Nat} {er dg co : Int32} {pP pH pF pT op f1 f2 l0 tb : Nat → Int32} {hh c0 c1 c2 c3 : Nat → Nat} (hC : CI Z x N u tm er dg co pP pH pF pT op f1 f2 l0 hh c0 c1 c2 c3 tb w1) (hM : MI Z mo th N u tm er dg co pP pH pF pT op f1 f2 l0 hh c0 c1 c2 c3 tb w2) (next : ∀ w9, LI Z x mo ou w9 → Jd Z X room_1 9 Q rc rs 2021 [(4, .int (nI i)), (0, .ref b), (1, .ref (x 0)), (2, .ref (mo 0)), (3, .ref (ou 0))] [] w9) : Jd Z X room_1 9 Q (rc + 16) (rs + 3000) 1389 [(4, .int (nI i)), (0, .ref b), (1, .ref (x 0)), (2, .ref (mo 0)), (3, .ref (ou 0))] [] ((wOu Z ou f ++ w1) ++ w2) := by
  refine J_aload_n C iL_law_1389 rfl rfl ?_
  refine J_aload_n C iL_law_1390 rfl rfl ?_
  refine J_iload C iL_law_1391 rfl ?_
  refine J_iconst 1 C iL_law_1393 rfl ?_
  refine J_iadd C iL_law_1394 ?_
  rw [show (nI i) + 1 = nI (i + 1) from nI_add _ _]
  refine J_sld C S iL_law_1395 (vp_in_nI (n := (i + 1)) (by omega) (by omega)) ?_
  rw [nI_clamp (n := (i + 1)) (by omega)]
  refine J_aload_n C iL_law_1396 rfl rfl ?_
  refine J_cSL (As := [.ref (x 0), .int (xs (i + 1)), .ref (ou 0)]) (st := []) (rc2 := (rc + 15)) (rs2 := (rs + 2994)) (w0 := wOu Z ou f ++ w1) C hV iL_law_1397 lm_L_198 ycw_L_housesInTheDark ys_L_housesInTheDark (k_housesInTheDark hl hC) [] w2 rfl rfl ⟨Nat.le_of_ble_eq_true rfl, Nat.le_of_ble_eq_true rfl⟩ (Nat.le_of_ble_eq_true rfl) (by show (rc + 16) = 1 + (rc + 15); omega) (by show (rs + 3000) = 6 + (rs + 2994); omega) ?_
  rintro _ w10 ⟨rfl, f9, w11, rfl, ⟨hc, hv, hC1⟩ | ⟨hc, hC1⟩⟩
  · refine J_st (.int ((if ((xs (i + 1)) < 0 ∨ 24 ≤ (xs (i + 1))) then 1 else 0) : Int32) :: []) rfl ?_
    refine J_ws ((wOu Z ou f9 ++ w11) ++ w2) rfl ?_
    refine J_istore [(5, .int ((if ((xs (i + 1)) < 0 ∨ 24 ≤ (xs (i + 1))) then 1 else 0) : Int32)), (4, .int (nI i)), (0, .ref b), (1, .ref (x 0)), (2, .ref (mo 0)), (3, .ref (ou 0))] C iL_law_1400 (by decide) rfl ?_
    refine J_aload_n C iL_law_1402 rfl rfl ?_
    refine J_aload_n C iL_law_1403 rfl rfl ?_
    refine J_iload C iL_law_1404 rfl ?_
    refine J_iconst 1 C iL_law_1406 rfl ?_
    refine J_iadd C iL_law_1407 ?_
    rw [show (nI i) + 1 = nI (i + 1) from nI_add _ _]
    refine J_sld C S iL_law_1408 (vp_in_nI (n := (i + 1)) (by omega) (by omega)) ?_
    rw [nI_clamp (n := (i + 1)) (by omega)]
    obtain ⟨fs2, hq2⟩ := hM.head
    refine J_cVb (ci := 9) (As := [.int (xs (i + 1))]) (st := []) (rc2 := (rc + 15)) (rs2 := (rs + 2994)) (w0 := w2) C iL_law_1409 lm_L_200 yc_X10_housesInTheDark yv_X10_housesInTheDark (n_X10_housesInTheDark hM) rfl rfl hq2 (wOu Z ou f9 ++ w11) [] (by simp only [List.append_nil]) rfl ⟨Nat.le_of_ble_eq_true rfl, Nat.le_of_ble_eq_true rfl⟩ (Nat.le_of_ble_eq_true rfl) (by show (rc + 15) = 0 + (rc + 15); omega) (by show (rs + 2994) = 0 + (rs + 2994); omega) ?_
    rintro _ w22 (⟨hc2, rfl, hM1⟩ | ⟨z9, hc2, rfl, hM1⟩)
    · refine J_st (.int (nI (cntN (dkB N (dkG N pP pH pF pT) (xs (i + 1))) N)) :: []) rfl ?_
      refine J_ws ((wOu Z ou f9 ++ w11) ++ w22) (by simp only [List.append_nil]) ?_
      refine J_istore [(6, .int (nI (cntN (dkB N (dkG N pP pH pF pT) (xs (i + 1))) N))), (5, .int ((if ((xs (i + 1)) < 0 ∨ 24 ≤ (xs (i + 1))) then 1 else 0) : Int32)), (4, .int (nI i)), (0, .ref b), (1, .ref (x 0)), (2, .ref (mo 0)), (3, .ref (ou 0))] C iL_law_1412 (by decide) rfl ?_
      refine J_aload_n C iL_law_1414 rfl rfl ?_
      obtain ⟨fs3, hq3⟩ := hM1.head
      refine J_cVb (ci := 9) (As := []) (st := []) (rc2 := (rc + 15)) (rs2 := (rs + 2994)) (w0 := w22) C iL_law_1415 lm_L_111 yc_X10_thrown yv_X10_thrown (n_X10_thrown hM1) rfl rfl hq3 (wOu Z ou f9 ++ w11) [] (by simp only [List.append_nil]) rfl ⟨Nat.le_of_ble_eq_true rfl, Nat.le_of_ble_eq_true rfl⟩ (Nat.le_of_ble_eq_true rfl) (by show (rc + 15) = 0 + (rc + 15); omega) (by show (rs + 2994) = 0 + (rs + 2994); omega) ?_
      rintro _ w23 ⟨rfl, hM2⟩
      refine J_st (.int 0 :: []) rfl ?_
      refine J_ws ((wOu Z ou f9 ++ w11) ++ w23) (by simp only [List.append_nil]) ?_
      refine J_iload C iL_law_1418 rfl ?_
      refine J_icmpeq 1425 C iL_law_1420 rfl (fun h1420 => ?_) (fun h1420 => absurd hc.symm h1420)
      refine J_iload C iL_law_1425 rfl ?_
      refine J_ifne 1442 C iL_law_1427 rfl (fun h1427 => absurd hc h1427) (fun h1427 => ?_)
      refine J_aload_n C iL_law_1430 rfl rfl ?_
      refine J_iconst 0 C iL_law_1431 rfl ?_
      refine J_lald 0 C iL_law_1432 rfl (vp_in_nI (n := 0) (by omega) (by decide)) ?_
      rw [show Int32.toNatClampNeg 0 = 0 from rfl]
      refine J_iload C iL_law_1433 rfl ?_
      refine J_i2l C iL_law_1435 ?_
      refine J_lcmp C iL_law_1436 ?_
      refine J_ifeqL 1442 C iL_law_1437 rfl (fun h1437 => ?_) (fun h1437 => absurd hv h1437)
      refine J_goto 2021 C iL_law_1442 rfl ?_
      refine J_lvm [(4, .int (nI i)), (0, .ref b), (1, .ref (x 0)), (2, .ref (mo 0)), (3, .ref (ou 0))] rfl ?_
      refine J_less rc rs (by omega) (by omega) ?_
      exact next _ ⟨f9, w11, w23, _, _, _, _, _, _, _, _, _, _, _, _, _, _, _, _, _, _, _, _, _, rfl, hC1, hM2⟩
    · exact absurd hc hc2
  · refine J_st (.int ((if ((xs (i + 1)) < 0 ∨ 24 ≤ (xs (i + 1))) then 1 else 0) : Int32) :: []) rfl ?_
    refine J_ws ((wOu Z ou f9 ++ w11) ++ w2) rfl ?_
    refine J_istore [(5, .int ((if ((xs (i + 1)) < 0 ∨ 24 ≤ (xs (i + 1))) then 1 else 0) : Int32)), (4, .int (nI i)), (0, .ref b), (1, .ref (x 0)), (2, .ref (mo 0)), (3, .ref (ou 0))] C iL_law_1400 (by decide) rfl ?_
    refine J_aload_n C iL_law_1402 rfl rfl ?_
    refine J_aload_n C iL_law_1403 rfl rfl ?_
    refine J_iload C iL_law_1404 rfl ?_
    refine J_iconst 1 C iL_law_1406 rfl ?_
    refine J_iadd C iL_law_1407 ?_
    rw [show (nI i) + 1 = nI (i + 1) from nI_add _ _]
    refine J_sld C S iL_law_1408 (vp_in_nI (n := (i + 1)) (by omega) (by omega)) ?_
    rw [nI_clamp (n := (i + 1)) (by omega)]
    obtain ⟨fs2, hq2⟩ := hM.head
    refine J_cVb (ci := 9) (As := [.int (xs (i + 1))]) (st := []) (rc2 := (rc + 15)) (rs2 := (rs + 2994)) (w0 := w2) C iL_law_1409 lm_L_200 yc_X10_housesInTheDark yv_X10_housesInTheDark (n_X10_housesInTheDark hM) rfl rfl hq2 (wOu Z ou f9 ++ w11) [] (by simp only [List.append_nil]) rfl ⟨Nat.le_of_ble_eq_true rfl, Nat.le_of_ble_eq_true rfl⟩ (Nat.le_of_ble_eq_true rfl) (by show (rc + 15) = 0 + (rc + 15); omega) (by show (rs + 2994) = 0 + (rs + 2994); omega) ?_
    rintro _ w22 (⟨hc2, rfl, hM1⟩ | ⟨z9, hc2, rfl, hM1⟩)
    · exact absurd hc2 hc
    · refine J_st (.int z9 :: []) rfl ?_
      refine J_ws ((wOu Z ou f9 ++ w11) ++ w22) (by simp only [List.append_nil]) ?_
      refine J_istore [(6, .int z9), (5, .int ((if ((xs (i + 1)) < 0 ∨ 24 ≤ (xs (i + 1))) then 1 else 0) : Int32)), (4, .int (nI i)), (0, .ref b), (1, .ref (x 0)), (2, .ref (mo 0)), (3, .ref (ou 0))] C iL_law_1412 (by decide) rfl ?_
      refine J_aload_n C iL_law_1414 rfl rfl ?_
      obtain ⟨fs3, hq3⟩ := hM1.head
      refine J_cVb (ci := 9) (As := []) (st := []) (rc2 := (rc + 15)) (rs2 := (rs + 2994)) (w0 := w22) C iL_law_1415 lm_L_111 yc_X10_thrown yv_X10_thrown (n_X10_thrown hM1) rfl rfl hq3 (wOu Z ou f9 ++ w11) [] (by simp only [List.append_nil]) rfl ⟨Nat.le_of_ble_eq_true rfl, Nat.le_of_ble_eq_true rfl⟩ (Nat.le_of_ble_eq_true rfl) (by show (rc + 15) = 0 + (rc + 15); omega) (by show (rs + 2994) = 0 + (rs + 2994); omega) ?_
      rintro _ w23 ⟨rfl, hM2⟩
      refine J_st (.int ((if ((xs (i + 1)) < 0 ∨ 24 ≤ (xs (i + 1))) then 1 else 0) : Int32) :: []) rfl ?_
      refine J_ws ((wOu Z ou f9 ++ w11) ++ w23) (by simp only [List.append_nil]) ?_
      refine J_iload C iL_law_1418 rfl ?_
      refine J_icmpeq 1425 C iL_law_1420 rfl (fun h1420 => ?_) (fun h1420 => absurd rfl h1420)
      refine J_iload C iL_law_1425 rfl ?_
      refine J_ifne 1442 C iL_law_1427 rfl (fun h1427 => ?_) (fun h1427 => absurd h1427 hc)
      refine J_goto 2021 C iL_law_1442 rfl ?_
      refine J_lvm [(4, .int (nI i)), (0, .ref b), (1, .ref (x 0)), (2, .ref (mo 0)), (3, .ref (ou 0))] rfl ?_
      refine J_less rc rs (by omega) (by omega) ?_
      exact next _ ⟨f9, w11, w23, _, _, _, _, _, _, _, _, _, _, _, _, _, _, _, _, _, _, _, _, _, rfl, hC1, hM2⟩

set_option maxRecDepth 100000 in
set_option maxHeartbeats 4000000 in
/-- case 26: setCurfew -/
theorem law_26 {Z : GZ} {X : CX} {Q : State → Prop} {rc rs : Nat} (C : Cx Z X cL_law 9 RL) (hV : VN (cS X)) (hl : (cL X).stackTraces = false) {b L i : Nat} {xs : Nat → Int32} (S : Sc X b L xs) (hL : L ≤ 3072) (hi : i + 6 ≤ L) {x mo ou : Nat → Nat} {f : Nat → Int64} {w1 w2 : va_W} {th : Int32} {N u tm : Nat} {er dg co : Int32} {pP pH pF pT op f1 f2 l0 tb : Nat → Int32} {hh c0 c1 c2 c3 : Nat → Nat} (hC : CI Z x N u tm er dg co pP pH pF pT op f1 f2 l0 hh c0 c1 c2 c3 tb w1) (hM : MI Z mo th N u tm er dg co pP pH pF pT op f1 f2 l0 hh c0 c1 c2 c3 tb w2) (next : ∀ w9, LI Z x mo ou w9 → Jd Z X room_1 9 Q rc rs 2021 [(4, .int (nI i)), (0, .ref b), (1, .ref (x 0)), (2, .ref (mo 0)), (3, .ref (ou 0))] [] w9) : Jd Z X room_1 9 Q (rc + 16) (rs + 3000) 1445 [(4, .int (nI i)), (0, .ref b), (1, .ref (x 0)), (2, .ref (mo 0)), (3, .ref (ou 0))] [] ((wOu Z ou f ++ w1) ++ w2) := by
  refine J_aload_n C iL_law_1445 rfl rfl ?_
  refine J_aload_n C iL_law_1446 rfl rfl ?_
  refine J_iload C iL_law_1447 rfl ?_
  refine J_iconst 1 C iL_law_1449 rfl ?_
  refine J_iadd C iL_law_1450 ?_
  rw [show (nI i) + 1 = nI (i + 1) from nI_add _ _]
  refine J_sld C S iL_law_1451 (vp_in_nI (n := (i + 1)) (by omega) (by omega)) ?_
  rw [nI_clamp (n := (i + 1)) (by omega)]
  refine J_aload_n C iL_law_1452 rfl rfl ?_
  refine J_iload C iL_law_1453 rfl ?_
  refine J_iconst 2 C iL_law_1455 rfl ?_
  refine J_iadd C iL_law_1456 ?_
  rw [show (nI i) + 2 = nI (i + 2) from nI_add _ _]
  refine J_sld C S iL_law_1457 (vp_in_nI (n := (i + 2)) (by omega) (by omega)) ?_
  rw [nI_clamp (n := (i + 2)) (by omega)]
  refine J_aload_n C iL_law_1458 rfl rfl ?_
  refine J_iload C iL_law_1459 rfl ?_
  refine J_iconst 3 C iL_law_1461 rfl ?_
  refine J_iadd C iL_law_1462 ?_
  rw [show (nI i) + 3 = nI (i + 3) from nI_add _ _]
  refine J_sld C S iL_law_1463 (vp_in_nI (n := (i + 3)) (by omega) (by omega)) ?_
  rw [nI_clamp (n := (i + 3)) (by omega)]
  refine J_aload_n C iL_law_1464 rfl rfl ?_
  refine J_cSL (As := [.ref (x 0), .int (xs (i + 1)), .int (xs (i + 2)), .int (xs (i + 3)), .ref (ou 0)]) (st := []) (rc2 := (rc + 14)) (rs2 := (rs + 2988)) (w0 := wOu Z ou f ++ w1) C hV iL_law_1465 lm_L_201 ycw_L_setCurfew ys_L_setCurfew (k_setCurfew hl hC) [] w2 rfl rfl ⟨Nat.le_of_ble_eq_true rfl, Nat.le_of_ble_eq_true rfl⟩ (Nat.le_of_ble_eq_true rfl) (by show (rc + 16) = 2 + (rc + 14); omega) (by show (rs + 3000) = 12 + (rs + 2988); omega) ?_
  rintro _ w10 ⟨rfl, f9, w11, rfl, ⟨hc, hv, hC1⟩ | ⟨hc, hC1⟩⟩
  · refine J_st (.int ((if ¬ hasB (nI N) (xs (i + 1)) = true then 1 else (if ((xs (i + 2)) < 6 ∨ 18 < (xs (i + 3)) ∨ (xs (i + 3)) < (xs (i + 2))) then 2 else 0)) : Int32) :: []) rfl ?_
    refine J_ws ((wOu Z ou f9 ++ w11) ++ w2) rfl ?_
    refine J_istore [(5, .int ((if ¬ hasB (nI N) (xs (i + 1)) = true then 1 else (if ((xs (i + 2)) < 6 ∨ 18 < (xs (i + 3)) ∨ (xs (i + 3)) < (xs (i + 2))) then 2 else 0)) : Int32)), (4, .int (nI i)), (0, .ref b), (1, .ref (x 0)), (2, .ref (mo 0)), (3, .ref (ou 0))] C iL_law_1468 (by decide) rfl ?_
    refine J_aload_n C iL_law_1470 rfl rfl ?_
    refine J_aload_n C iL_law_1471 rfl rfl ?_
    refine J_iload C iL_law_1472 rfl ?_
    refine J_iconst 1 C iL_law_1474 rfl ?_
    refine J_iadd C iL_law_1475 ?_
    rw [show (nI i) + 1 = nI (i + 1) from nI_add _ _]
    refine J_sld C S iL_law_1476 (vp_in_nI (n := (i + 1)) (by omega) (by omega)) ?_
    rw [nI_clamp (n := (i + 1)) (by omega)]
    refine J_aload_n C iL_law_1477 rfl rfl ?_
    refine J_iload C iL_law_1478 rfl ?_
    refine J_iconst 2 C iL_law_1480 rfl ?_
    refine J_iadd C iL_law_1481 ?_
    rw [show (nI i) + 2 = nI (i + 2) from nI_add _ _]
    refine J_sld C S iL_law_1482 (vp_in_nI (n := (i + 2)) (by omega) (by omega)) ?_
    rw [nI_clamp (n := (i + 2)) (by omega)]
    refine J_aload_n C iL_law_1483 rfl rfl ?_
    refine J_iload C iL_law_1484 rfl ?_
    refine J_iconst 3 C iL_law_1486 rfl ?_
    refine J_iadd C iL_law_1487 ?_
    rw [show (nI i) + 3 = nI (i + 3) from nI_add _ _]
    refine J_sld C S iL_law_1488 (vp_in_nI (n := (i + 3)) (by omega) (by omega)) ?_
    rw [nI_clamp (n := (i + 3)) (by omega)]
    obtain ⟨fs2, hq2⟩ := hM.head
    refine J_cVb (ci := 9) (As := [.int (xs (i + 1)), .int (xs (i + 2)), .int (xs (i + 3))]) (st := []) (rc2 := (rc + 14)) (rs2 := (rs + 2988)) (w0 := w2) C iL_law_1489 lm_L_203 yc_X10_setCurfew yv_X10_setCurfew (n_X10_setCurfew hM) rfl rfl hq2 (wOu Z ou f9 ++ w11) [] (by simp only [List.append_nil]) rfl ⟨Nat.le_of_ble_eq_true rfl, Nat.le_of_ble_eq_true rfl⟩ (Nat.le_of_ble_eq_true rfl) (by show (rc + 14) = 0 + (rc + 14); omega) (by show (rs + 2988) = 0 + (rs + 2988); omega) ?_
    rintro _ w22 (⟨hc2, rfl, hM1⟩ | ⟨z9, hc2, rfl, hM1⟩)
    · refine J_st (.int (laG N pP pH (upd pF (xs (i + 1)).toNatClampNeg (xs (i + 2))) (upd pT (xs (i + 1)).toNatClampNeg (xs (i + 3)))) :: []) rfl ?_
      refine J_ws ((wOu Z ou f9 ++ w11) ++ w22) (by simp only [List.append_nil]) ?_
      refine J_istore [(6, .int (laG N pP pH (upd pF (xs (i + 1)).toNatClampNeg (xs (i + 2))) (upd pT (xs (i + 1)).toNatClampNeg (xs (i + 3))))), (5, .int ((if ¬ hasB (nI N) (xs (i + 1)) = true then 1 else (if ((xs (i + 2)) < 6 ∨ 18 < (xs (i + 3)) ∨ (xs (i + 3)) < (xs (i + 2))) then 2 else 0)) : Int32)), (4, .int (nI i)), (0, .ref b), (1, .ref (x 0)), (2, .ref (mo 0)), (3, .ref (ou 0))] C iL_law_1492 (by decide) rfl ?_
      refine J_aload_n C iL_law_1494 rfl rfl ?_
      obtain ⟨fs3, hq3⟩ := hM1.head
      refine J_cVb (ci := 9) (As := []) (st := []) (rc2 := (rc + 14)) (rs2 := (rs + 2988)) (w0 := w22) C iL_law_1495 lm_L_111 yc_X10_thrown yv_X10_thrown (n_X10_thrown hM1) rfl rfl hq3 (wOu Z ou f9 ++ w11) [] (by simp only [List.append_nil]) rfl ⟨Nat.le_of_ble_eq_true rfl, Nat.le_of_ble_eq_true rfl⟩ (Nat.le_of_ble_eq_true rfl) (by show (rc + 14) = 0 + (rc + 14); omega) (by show (rs + 2988) = 0 + (rs + 2988); omega) ?_
      rintro _ w23 ⟨rfl, hM2⟩
      refine J_st (.int 0 :: []) rfl ?_
      refine J_ws ((wOu Z ou f9 ++ w11) ++ w23) (by simp only [List.append_nil]) ?_
      refine J_iload C iL_law_1498 rfl ?_
      refine J_icmpeq 1505 C iL_law_1500 rfl (fun h1500 => ?_) (fun h1500 => absurd hc.symm h1500)
      refine J_iload C iL_law_1505 rfl ?_
      refine J_ifne 1522 C iL_law_1507 rfl (fun h1507 => absurd hc h1507) (fun h1507 => ?_)
      refine J_aload_n C iL_law_1510 rfl rfl ?_
      refine J_iconst 0 C iL_law_1511 rfl ?_
      refine J_lald 0 C iL_law_1512 rfl (vp_in_nI (n := 0) (by omega) (by decide)) ?_
      rw [show Int32.toNatClampNeg 0 = 0 from rfl]
      refine J_iload C iL_law_1513 rfl ?_
      refine J_i2l C iL_law_1515 ?_
      refine J_lcmp C iL_law_1516 ?_
      refine J_ifeqL 1522 C iL_law_1517 rfl (fun h1517 => ?_) (fun h1517 => absurd hv h1517)
      refine J_goto 2021 C iL_law_1522 rfl ?_
      refine J_lvm [(4, .int (nI i)), (0, .ref b), (1, .ref (x 0)), (2, .ref (mo 0)), (3, .ref (ou 0))] rfl ?_
      refine J_less rc rs (by omega) (by omega) ?_
      exact next _ ⟨f9, w11, w23, _, _, _, _, _, _, _, _, _, _, _, _, _, _, _, _, _, _, _, _, _, rfl, hC1, hM2⟩
    · exact absurd hc hc2
  · refine J_st (.int ((if ¬ hasB (nI N) (xs (i + 1)) = true then 1 else (if ((xs (i + 2)) < 6 ∨ 18 < (xs (i + 3)) ∨ (xs (i + 3)) < (xs (i + 2))) then 2 else 0)) : Int32) :: []) rfl ?_
    refine J_ws ((wOu Z ou f9 ++ w11) ++ w2) rfl ?_
    refine J_istore [(5, .int ((if ¬ hasB (nI N) (xs (i + 1)) = true then 1 else (if ((xs (i + 2)) < 6 ∨ 18 < (xs (i + 3)) ∨ (xs (i + 3)) < (xs (i + 2))) then 2 else 0)) : Int32)), (4, .int (nI i)), (0, .ref b), (1, .ref (x 0)), (2, .ref (mo 0)), (3, .ref (ou 0))] C iL_law_1468 (by decide) rfl ?_
    refine J_aload_n C iL_law_1470 rfl rfl ?_
    refine J_aload_n C iL_law_1471 rfl rfl ?_
    refine J_iload C iL_law_1472 rfl ?_
    refine J_iconst 1 C iL_law_1474 rfl ?_
    refine J_iadd C iL_law_1475 ?_
    rw [show (nI i) + 1 = nI (i + 1) from nI_add _ _]
    refine J_sld C S iL_law_1476 (vp_in_nI (n := (i + 1)) (by omega) (by omega)) ?_
    rw [nI_clamp (n := (i + 1)) (by omega)]
    refine J_aload_n C iL_law_1477 rfl rfl ?_
    refine J_iload C iL_law_1478 rfl ?_
    refine J_iconst 2 C iL_law_1480 rfl ?_
    refine J_iadd C iL_law_1481 ?_
    rw [show (nI i) + 2 = nI (i + 2) from nI_add _ _]
    refine J_sld C S iL_law_1482 (vp_in_nI (n := (i + 2)) (by omega) (by omega)) ?_
    rw [nI_clamp (n := (i + 2)) (by omega)]
    refine J_aload_n C iL_law_1483 rfl rfl ?_
    refine J_iload C iL_law_1484 rfl ?_
    refine J_iconst 3 C iL_law_1486 rfl ?_
    refine J_iadd C iL_law_1487 ?_
    rw [show (nI i) + 3 = nI (i + 3) from nI_add _ _]
    refine J_sld C S iL_law_1488 (vp_in_nI (n := (i + 3)) (by omega) (by omega)) ?_
    rw [nI_clamp (n := (i + 3)) (by omega)]
    obtain ⟨fs2, hq2⟩ := hM.head
    refine J_cVb (ci := 9) (As := [.int (xs (i + 1)), .int (xs (i + 2)), .int (xs (i + 3))]) (st := []) (rc2 := (rc + 14)) (rs2 := (rs + 2988)) (w0 := w2) C iL_law_1489 lm_L_203 yc_X10_setCurfew yv_X10_setCurfew (n_X10_setCurfew hM) rfl rfl hq2 (wOu Z ou f9 ++ w11) [] (by simp only [List.append_nil]) rfl ⟨Nat.le_of_ble_eq_true rfl, Nat.le_of_ble_eq_true rfl⟩ (Nat.le_of_ble_eq_true rfl) (by show (rc + 14) = 0 + (rc + 14); omega) (by show (rs + 2988) = 0 + (rs + 2988); omega) ?_
    rintro _ w22 (⟨hc2, rfl, hM1⟩ | ⟨z9, hc2, rfl, hM1⟩)
    · exact absurd hc2 hc
    · refine J_st (.int z9 :: []) rfl ?_
      refine J_ws ((wOu Z ou f9 ++ w11) ++ w22) (by simp only [List.append_nil]) ?_
      refine J_istore [(6, .int z9), (5, .int ((if ¬ hasB (nI N) (xs (i + 1)) = true then 1 else (if ((xs (i + 2)) < 6 ∨ 18 < (xs (i + 3)) ∨ (xs (i + 3)) < (xs (i + 2))) then 2 else 0)) : Int32)), (4, .int (nI i)), (0, .ref b), (1, .ref (x 0)), (2, .ref (mo 0)), (3, .ref (ou 0))] C iL_law_1492 (by decide) rfl ?_
      refine J_aload_n C iL_law_1494 rfl rfl ?_
      obtain ⟨fs3, hq3⟩ := hM1.head
      refine J_cVb (ci := 9) (As := []) (st := []) (rc2 := (rc + 14)) (rs2 := (rs + 2988)) (w0 := w22) C iL_law_1495 lm_L_111 yc_X10_thrown yv_X10_thrown (n_X10_thrown hM1) rfl rfl hq3 (wOu Z ou f9 ++ w11) [] (by simp only [List.append_nil]) rfl ⟨Nat.le_of_ble_eq_true rfl, Nat.le_of_ble_eq_true rfl⟩ (Nat.le_of_ble_eq_true rfl) (by show (rc + 14) = 0 + (rc + 14); omega) (by show (rs + 2988) = 0 + (rs + 2988); omega) ?_
      rintro _ w23 ⟨rfl, hM2⟩
      refine J_st (.int ((if ¬ hasB (nI N) (xs (i + 1)) = true then 1 else (if ((xs (i + 2)) < 6 ∨ 18 < (xs (i + 3)) ∨ (xs (i + 3)) < (xs (i + 2))) then 2 else 0)) : Int32) :: []) rfl ?_
      refine J_ws ((wOu Z ou f9 ++ w11) ++ w23) (by simp only [List.append_nil]) ?_
      refine J_iload C iL_law_1498 rfl ?_
      refine J_icmpeq 1505 C iL_law_1500 rfl (fun h1500 => ?_) (fun h1500 => absurd rfl h1500)
      refine J_iload C iL_law_1505 rfl ?_
      refine J_ifne 1522 C iL_law_1507 rfl (fun h1507 => ?_) (fun h1507 => absurd h1507 hc)
      refine J_goto 2021 C iL_law_1522 rfl ?_
      refine J_lvm [(4, .int (nI i)), (0, .ref b), (1, .ref (x 0)), (2, .ref (mo 0)), (3, .ref (ou 0))] rfl ?_
      refine J_less rc rs (by omega) (by omega) ?_
      exact next _ ⟨f9, w11, w23, _, _, _, _, _, _, _, _, _, _, _, _, _, _, _, _, _, _, _, _, _, rfl, hC1, hM2⟩

set_option maxRecDepth 100000 in
set_option maxHeartbeats 4000000 in
/-- case 27: endCurfew -/
theorem law_27 {Z : GZ} {X : CX} {Q : State → Prop} {rc rs : Nat} (C : Cx Z X cL_law 9 RL) (hV : VN (cS X)) (hl : (cL X).stackTraces = false) {b L i : Nat} {xs : Nat → Int32} (S : Sc X b L xs) (hL : L ≤ 3072) (hi : i + 6 ≤ L) {x mo ou : Nat → Nat} {f : Nat → Int64} {w1 w2 : va_W} {th : Int32} {N u tm : Nat} {er dg co : Int32} {pP pH pF pT op f1 f2 l0 tb : Nat → Int32} {hh c0 c1 c2 c3 : Nat → Nat} (hC : CI Z x N u tm er dg co pP pH pF pT op f1 f2 l0 hh c0 c1 c2 c3 tb w1) (hM : MI Z mo th N u tm er dg co pP pH pF pT op f1 f2 l0 hh c0 c1 c2 c3 tb w2) (next : ∀ w9, LI Z x mo ou w9 → Jd Z X room_1 9 Q rc rs 2021 [(4, .int (nI i)), (0, .ref b), (1, .ref (x 0)), (2, .ref (mo 0)), (3, .ref (ou 0))] [] w9) : Jd Z X room_1 9 Q (rc + 16) (rs + 3000) 1525 [(4, .int (nI i)), (0, .ref b), (1, .ref (x 0)), (2, .ref (mo 0)), (3, .ref (ou 0))] [] ((wOu Z ou f ++ w1) ++ w2) := by
  refine J_aload_n C iL_law_1525 rfl rfl ?_
  refine J_aload_n C iL_law_1526 rfl rfl ?_
  refine J_iload C iL_law_1527 rfl ?_
  refine J_iconst 1 C iL_law_1529 rfl ?_
  refine J_iadd C iL_law_1530 ?_
  rw [show (nI i) + 1 = nI (i + 1) from nI_add _ _]
  refine J_sld C S iL_law_1531 (vp_in_nI (n := (i + 1)) (by omega) (by omega)) ?_
  rw [nI_clamp (n := (i + 1)) (by omega)]
  refine J_aload_n C iL_law_1532 rfl rfl ?_
  refine J_cSL (As := [.ref (x 0), .int (xs (i + 1)), .ref (ou 0)]) (st := []) (rc2 := (rc + 14)) (rs2 := (rs + 2988)) (w0 := wOu Z ou f ++ w1) C hV iL_law_1533 lm_L_204 ycw_L_endCurfew ys_L_endCurfew (k_endCurfew hl hC) [] w2 rfl rfl ⟨Nat.le_of_ble_eq_true rfl, Nat.le_of_ble_eq_true rfl⟩ (Nat.le_of_ble_eq_true rfl) (by show (rc + 16) = 2 + (rc + 14); omega) (by show (rs + 3000) = 12 + (rs + 2988); omega) ?_
  rintro _ w10 ⟨rfl, f9, w11, rfl, ⟨hc, hv, hC1⟩ | ⟨hc, hC1⟩⟩
  · refine J_st (.int ((if ¬ hasB (nI N) (xs (i + 1)) = true then 1 else (if stAt (nI N) (xs (i + 1)) pF (-1) = -1 then 2 else 0)) : Int32) :: []) rfl ?_
    refine J_ws ((wOu Z ou f9 ++ w11) ++ w2) rfl ?_
    refine J_istore [(5, .int ((if ¬ hasB (nI N) (xs (i + 1)) = true then 1 else (if stAt (nI N) (xs (i + 1)) pF (-1) = -1 then 2 else 0)) : Int32)), (4, .int (nI i)), (0, .ref b), (1, .ref (x 0)), (2, .ref (mo 0)), (3, .ref (ou 0))] C iL_law_1536 (by decide) rfl ?_
    refine J_aload_n C iL_law_1538 rfl rfl ?_
    refine J_aload_n C iL_law_1539 rfl rfl ?_
    refine J_iload C iL_law_1540 rfl ?_
    refine J_iconst 1 C iL_law_1542 rfl ?_
    refine J_iadd C iL_law_1543 ?_
    rw [show (nI i) + 1 = nI (i + 1) from nI_add _ _]
    refine J_sld C S iL_law_1544 (vp_in_nI (n := (i + 1)) (by omega) (by omega)) ?_
    rw [nI_clamp (n := (i + 1)) (by omega)]
    obtain ⟨fs2, hq2⟩ := hM.head
    refine J_cVb (ci := 9) (As := [.int (xs (i + 1))]) (st := []) (rc2 := (rc + 14)) (rs2 := (rs + 2988)) (w0 := w2) C iL_law_1545 lm_L_206 yc_X10_endCurfew yv_X10_endCurfew (n_X10_endCurfew hM) rfl rfl hq2 (wOu Z ou f9 ++ w11) [] (by simp only [List.append_nil]) rfl ⟨Nat.le_of_ble_eq_true rfl, Nat.le_of_ble_eq_true rfl⟩ (Nat.le_of_ble_eq_true rfl) (by show (rc + 14) = 0 + (rc + 14); omega) (by show (rs + 2988) = 0 + (rs + 2988); omega) ?_
    rintro _ w22 (⟨hc2, rfl, hM1⟩ | ⟨z9, hc2, rfl, hM1⟩)
    · refine J_st (.int (laG N pP pH (upd pF (xs (i + 1)).toNatClampNeg (-1)) (upd pT (xs (i + 1)).toNatClampNeg (-1))) :: []) rfl ?_
      refine J_ws ((wOu Z ou f9 ++ w11) ++ w22) (by simp only [List.append_nil]) ?_
      refine J_istore [(6, .int (laG N pP pH (upd pF (xs (i + 1)).toNatClampNeg (-1)) (upd pT (xs (i + 1)).toNatClampNeg (-1)))), (5, .int ((if ¬ hasB (nI N) (xs (i + 1)) = true then 1 else (if stAt (nI N) (xs (i + 1)) pF (-1) = -1 then 2 else 0)) : Int32)), (4, .int (nI i)), (0, .ref b), (1, .ref (x 0)), (2, .ref (mo 0)), (3, .ref (ou 0))] C iL_law_1548 (by decide) rfl ?_
      refine J_aload_n C iL_law_1550 rfl rfl ?_
      obtain ⟨fs3, hq3⟩ := hM1.head
      refine J_cVb (ci := 9) (As := []) (st := []) (rc2 := (rc + 14)) (rs2 := (rs + 2988)) (w0 := w22) C iL_law_1551 lm_L_111 yc_X10_thrown yv_X10_thrown (n_X10_thrown hM1) rfl rfl hq3 (wOu Z ou f9 ++ w11) [] (by simp only [List.append_nil]) rfl ⟨Nat.le_of_ble_eq_true rfl, Nat.le_of_ble_eq_true rfl⟩ (Nat.le_of_ble_eq_true rfl) (by show (rc + 14) = 0 + (rc + 14); omega) (by show (rs + 2988) = 0 + (rs + 2988); omega) ?_
      rintro _ w23 ⟨rfl, hM2⟩
      refine J_st (.int 0 :: []) rfl ?_
      refine J_ws ((wOu Z ou f9 ++ w11) ++ w23) (by simp only [List.append_nil]) ?_
      refine J_iload C iL_law_1554 rfl ?_
      refine J_icmpeq 1561 C iL_law_1556 rfl (fun h1556 => ?_) (fun h1556 => absurd hc.symm h1556)
      refine J_iload C iL_law_1561 rfl ?_
      refine J_ifne 1578 C iL_law_1563 rfl (fun h1563 => absurd hc h1563) (fun h1563 => ?_)
      refine J_aload_n C iL_law_1566 rfl rfl ?_
      refine J_iconst 0 C iL_law_1567 rfl ?_
      refine J_lald 0 C iL_law_1568 rfl (vp_in_nI (n := 0) (by omega) (by decide)) ?_
      rw [show Int32.toNatClampNeg 0 = 0 from rfl]
      refine J_iload C iL_law_1569 rfl ?_
      refine J_i2l C iL_law_1571 ?_
      refine J_lcmp C iL_law_1572 ?_
      refine J_ifeqL 1578 C iL_law_1573 rfl (fun h1573 => ?_) (fun h1573 => absurd hv h1573)
      refine J_goto 2021 C iL_law_1578 rfl ?_
      refine J_lvm [(4, .int (nI i)), (0, .ref b), (1, .ref (x 0)), (2, .ref (mo 0)), (3, .ref (ou 0))] rfl ?_
      refine J_less rc rs (by omega) (by omega) ?_
      exact next _ ⟨f9, w11, w23, _, _, _, _, _, _, _, _, _, _, _, _, _, _, _, _, _, _, _, _, _, rfl, hC1, hM2⟩
    · exact absurd hc hc2
  · refine J_st (.int ((if ¬ hasB (nI N) (xs (i + 1)) = true then 1 else (if stAt (nI N) (xs (i + 1)) pF (-1) = -1 then 2 else 0)) : Int32) :: []) rfl ?_
    refine J_ws ((wOu Z ou f9 ++ w11) ++ w2) rfl ?_
    refine J_istore [(5, .int ((if ¬ hasB (nI N) (xs (i + 1)) = true then 1 else (if stAt (nI N) (xs (i + 1)) pF (-1) = -1 then 2 else 0)) : Int32)), (4, .int (nI i)), (0, .ref b), (1, .ref (x 0)), (2, .ref (mo 0)), (3, .ref (ou 0))] C iL_law_1536 (by decide) rfl ?_
    refine J_aload_n C iL_law_1538 rfl rfl ?_
    refine J_aload_n C iL_law_1539 rfl rfl ?_
    refine J_iload C iL_law_1540 rfl ?_
    refine J_iconst 1 C iL_law_1542 rfl ?_
    refine J_iadd C iL_law_1543 ?_
    rw [show (nI i) + 1 = nI (i + 1) from nI_add _ _]
    refine J_sld C S iL_law_1544 (vp_in_nI (n := (i + 1)) (by omega) (by omega)) ?_
    rw [nI_clamp (n := (i + 1)) (by omega)]
    obtain ⟨fs2, hq2⟩ := hM.head
    refine J_cVb (ci := 9) (As := [.int (xs (i + 1))]) (st := []) (rc2 := (rc + 14)) (rs2 := (rs + 2988)) (w0 := w2) C iL_law_1545 lm_L_206 yc_X10_endCurfew yv_X10_endCurfew (n_X10_endCurfew hM) rfl rfl hq2 (wOu Z ou f9 ++ w11) [] (by simp only [List.append_nil]) rfl ⟨Nat.le_of_ble_eq_true rfl, Nat.le_of_ble_eq_true rfl⟩ (Nat.le_of_ble_eq_true rfl) (by show (rc + 14) = 0 + (rc + 14); omega) (by show (rs + 2988) = 0 + (rs + 2988); omega) ?_
    rintro _ w22 (⟨hc2, rfl, hM1⟩ | ⟨z9, hc2, rfl, hM1⟩)
    · exact absurd hc2 hc
    · refine J_st (.int z9 :: []) rfl ?_
      refine J_ws ((wOu Z ou f9 ++ w11) ++ w22) (by simp only [List.append_nil]) ?_
      refine J_istore [(6, .int z9), (5, .int ((if ¬ hasB (nI N) (xs (i + 1)) = true then 1 else (if stAt (nI N) (xs (i + 1)) pF (-1) = -1 then 2 else 0)) : Int32)), (4, .int (nI i)), (0, .ref b), (1, .ref (x 0)), (2, .ref (mo 0)), (3, .ref (ou 0))] C iL_law_1548 (by decide) rfl ?_
      refine J_aload_n C iL_law_1550 rfl rfl ?_
      obtain ⟨fs3, hq3⟩ := hM1.head
      refine J_cVb (ci := 9) (As := []) (st := []) (rc2 := (rc + 14)) (rs2 := (rs + 2988)) (w0 := w22) C iL_law_1551 lm_L_111 yc_X10_thrown yv_X10_thrown (n_X10_thrown hM1) rfl rfl hq3 (wOu Z ou f9 ++ w11) [] (by simp only [List.append_nil]) rfl ⟨Nat.le_of_ble_eq_true rfl, Nat.le_of_ble_eq_true rfl⟩ (Nat.le_of_ble_eq_true rfl) (by show (rc + 14) = 0 + (rc + 14); omega) (by show (rs + 2988) = 0 + (rs + 2988); omega) ?_
      rintro _ w23 ⟨rfl, hM2⟩
      refine J_st (.int ((if ¬ hasB (nI N) (xs (i + 1)) = true then 1 else (if stAt (nI N) (xs (i + 1)) pF (-1) = -1 then 2 else 0)) : Int32) :: []) rfl ?_
      refine J_ws ((wOu Z ou f9 ++ w11) ++ w23) (by simp only [List.append_nil]) ?_
      refine J_iload C iL_law_1554 rfl ?_
      refine J_icmpeq 1561 C iL_law_1556 rfl (fun h1556 => ?_) (fun h1556 => absurd rfl h1556)
      refine J_iload C iL_law_1561 rfl ?_
      refine J_ifne 1578 C iL_law_1563 rfl (fun h1563 => ?_) (fun h1563 => absurd h1563 hc)
      refine J_goto 2021 C iL_law_1578 rfl ?_
      refine J_lvm [(4, .int (nI i)), (0, .ref b), (1, .ref (x 0)), (2, .ref (mo 0)), (3, .ref (ou 0))] rfl ?_
      refine J_less rc rs (by omega) (by omega) ?_
      exact next _ ⟨f9, w11, w23, _, _, _, _, _, _, _, _, _, _, _, _, _, _, _, _, _, _, _, _, _, rfl, hC1, hM2⟩

set_option maxRecDepth 100000 in
set_option maxHeartbeats 4000000 in
/-- case 28: build -/
theorem law_28 {Z : GZ} {X : CX} {Q : State → Prop} {rc rs : Nat} (C : Cx Z X cL_law 9 RL) (hV : VN (cS X)) (hl : (cL X).stackTraces = false) {b L i : Nat} {xs : Nat → Int32} (S : Sc X b L xs) (hL : L ≤ 3072) (hi : i + 6 ≤ L) {x mo ou : Nat → Nat} {f : Nat → Int64} {w1 w2 : va_W} {th : Int32} {N u tm : Nat} {er dg co : Int32} {pP pH pF pT op f1 f2 l0 tb : Nat → Int32} {hh c0 c1 c2 c3 : Nat → Nat} (hC : CI Z x N u tm er dg co pP pH pF pT op f1 f2 l0 hh c0 c1 c2 c3 tb w1) (hM : MI Z mo th N u tm er dg co pP pH pF pT op f1 f2 l0 hh c0 c1 c2 c3 tb w2) (next : ∀ w9, LI Z x mo ou w9 → Jd Z X room_1 9 Q rc rs 2021 [(4, .int (nI i)), (0, .ref b), (1, .ref (x 0)), (2, .ref (mo 0)), (3, .ref (ou 0))] [] w9) : Jd Z X room_1 9 Q (rc + 16) (rs + 3000) 1581 [(4, .int (nI i)), (0, .ref b), (1, .ref (x 0)), (2, .ref (mo 0)), (3, .ref (ou 0))] [] ((wOu Z ou f ++ w1) ++ w2) := by
  refine J_aload_n C iL_law_1581 rfl rfl ?_
  refine J_aload_n C iL_law_1582 rfl rfl ?_
  refine J_iload C iL_law_1583 rfl ?_
  refine J_iconst 1 C iL_law_1585 rfl ?_
  refine J_iadd C iL_law_1586 ?_
  rw [show (nI i) + 1 = nI (i + 1) from nI_add _ _]
  refine J_sld C S iL_law_1587 (vp_in_nI (n := (i + 1)) (by omega) (by omega)) ?_
  rw [nI_clamp (n := (i + 1)) (by omega)]
  refine J_aload_n C iL_law_1588 rfl rfl ?_
  refine J_iload C iL_law_1589 rfl ?_
  refine J_iconst 2 C iL_law_1591 rfl ?_
  refine J_iadd C iL_law_1592 ?_
  rw [show (nI i) + 2 = nI (i + 2) from nI_add _ _]
  refine J_sld C S iL_law_1593 (vp_in_nI (n := (i + 2)) (by omega) (by omega)) ?_
  rw [nI_clamp (n := (i + 2)) (by omega)]
  refine J_aload_n C iL_law_1594 rfl rfl ?_
  refine J_cSL (As := [.ref (x 0), .int (xs (i + 1)), .int (xs (i + 2)), .ref (ou 0)]) (st := []) (rc2 := (rc + 14)) (rs2 := (rs + 2988)) (w0 := wOu Z ou f ++ w1) C hV iL_law_1595 lm_L_207 ycw_L_build ys_L_build (k_build hl hC) [] w2 rfl rfl ⟨Nat.le_of_ble_eq_true rfl, Nat.le_of_ble_eq_true rfl⟩ (Nat.le_of_ble_eq_true rfl) (by show (rc + 16) = 2 + (rc + 14); omega) (by show (rs + 3000) = 12 + (rs + 2988); omega) ?_
  rintro _ w10 ⟨rfl, f9, w11, rfl, ⟨hc, hv, hC1⟩ | ⟨hc, hC1⟩⟩
  · refine J_st (.int ((if ¬ hasB (nI N) (xs (i + 1)) = true then 1 else (if ((xs (i + 2)) < 0 ∨ 30 < (xs (i + 2))) then 2 else 0)) : Int32) :: []) rfl ?_
    refine J_ws ((wOu Z ou f9 ++ w11) ++ w2) rfl ?_
    refine J_istore [(5, .int ((if ¬ hasB (nI N) (xs (i + 1)) = true then 1 else (if ((xs (i + 2)) < 0 ∨ 30 < (xs (i + 2))) then 2 else 0)) : Int32)), (4, .int (nI i)), (0, .ref b), (1, .ref (x 0)), (2, .ref (mo 0)), (3, .ref (ou 0))] C iL_law_1598 (by decide) rfl ?_
    refine J_aload_n C iL_law_1600 rfl rfl ?_
    refine J_aload_n C iL_law_1601 rfl rfl ?_
    refine J_iload C iL_law_1602 rfl ?_
    refine J_iconst 1 C iL_law_1604 rfl ?_
    refine J_iadd C iL_law_1605 ?_
    rw [show (nI i) + 1 = nI (i + 1) from nI_add _ _]
    refine J_sld C S iL_law_1606 (vp_in_nI (n := (i + 1)) (by omega) (by omega)) ?_
    rw [nI_clamp (n := (i + 1)) (by omega)]
    refine J_aload_n C iL_law_1607 rfl rfl ?_
    refine J_iload C iL_law_1608 rfl ?_
    refine J_iconst 2 C iL_law_1610 rfl ?_
    refine J_iadd C iL_law_1611 ?_
    rw [show (nI i) + 2 = nI (i + 2) from nI_add _ _]
    refine J_sld C S iL_law_1612 (vp_in_nI (n := (i + 2)) (by omega) (by omega)) ?_
    rw [nI_clamp (n := (i + 2)) (by omega)]
    obtain ⟨fs2, hq2⟩ := hM.head
    refine J_cVb (ci := 9) (As := [.int (xs (i + 1)), .int (xs (i + 2))]) (st := []) (rc2 := (rc + 14)) (rs2 := (rs + 2988)) (w0 := w2) C iL_law_1613 lm_L_209 yc_X10_build yv_X10_build (n_X10_build hM) rfl rfl hq2 (wOu Z ou f9 ++ w11) [] (by simp only [List.append_nil]) rfl ⟨Nat.le_of_ble_eq_true rfl, Nat.le_of_ble_eq_true rfl⟩ (Nat.le_of_ble_eq_true rfl) (by show (rc + 14) = 0 + (rc + 14); omega) (by show (rs + 2988) = 0 + (rs + 2988); omega) ?_
    rintro _ w22 (⟨hc2, rfl, hM1⟩ | ⟨z9, hc2, rfl, hM1⟩)
    · refine J_st (.int (stAt (nI N) (xs (i + 1)) pH 0) :: []) rfl ?_
      refine J_ws ((wOu Z ou f9 ++ w11) ++ w22) (by simp only [List.append_nil]) ?_
      refine J_istore [(6, .int (stAt (nI N) (xs (i + 1)) pH 0)), (5, .int ((if ¬ hasB (nI N) (xs (i + 1)) = true then 1 else (if ((xs (i + 2)) < 0 ∨ 30 < (xs (i + 2))) then 2 else 0)) : Int32)), (4, .int (nI i)), (0, .ref b), (1, .ref (x 0)), (2, .ref (mo 0)), (3, .ref (ou 0))] C iL_law_1616 (by decide) rfl ?_
      refine J_aload_n C iL_law_1618 rfl rfl ?_
      obtain ⟨fs3, hq3⟩ := hM1.head
      refine J_cVb (ci := 9) (As := []) (st := []) (rc2 := (rc + 14)) (rs2 := (rs + 2988)) (w0 := w22) C iL_law_1619 lm_L_111 yc_X10_thrown yv_X10_thrown (n_X10_thrown hM1) rfl rfl hq3 (wOu Z ou f9 ++ w11) [] (by simp only [List.append_nil]) rfl ⟨Nat.le_of_ble_eq_true rfl, Nat.le_of_ble_eq_true rfl⟩ (Nat.le_of_ble_eq_true rfl) (by show (rc + 14) = 0 + (rc + 14); omega) (by show (rs + 2988) = 0 + (rs + 2988); omega) ?_
      rintro _ w23 ⟨rfl, hM2⟩
      refine J_st (.int 0 :: []) rfl ?_
      refine J_ws ((wOu Z ou f9 ++ w11) ++ w23) (by simp only [List.append_nil]) ?_
      refine J_iload C iL_law_1622 rfl ?_
      refine J_icmpeq 1629 C iL_law_1624 rfl (fun h1624 => ?_) (fun h1624 => absurd hc.symm h1624)
      refine J_iload C iL_law_1629 rfl ?_
      refine J_ifne 1646 C iL_law_1631 rfl (fun h1631 => absurd hc h1631) (fun h1631 => ?_)
      refine J_aload_n C iL_law_1634 rfl rfl ?_
      refine J_iconst 0 C iL_law_1635 rfl ?_
      refine J_lald 0 C iL_law_1636 rfl (vp_in_nI (n := 0) (by omega) (by decide)) ?_
      rw [show Int32.toNatClampNeg 0 = 0 from rfl]
      refine J_iload C iL_law_1637 rfl ?_
      refine J_i2l C iL_law_1639 ?_
      refine J_lcmp C iL_law_1640 ?_
      refine J_ifeqL 1646 C iL_law_1641 rfl (fun h1641 => ?_) (fun h1641 => absurd hv h1641)
      refine J_goto 2021 C iL_law_1646 rfl ?_
      refine J_lvm [(4, .int (nI i)), (0, .ref b), (1, .ref (x 0)), (2, .ref (mo 0)), (3, .ref (ou 0))] rfl ?_
      refine J_less rc rs (by omega) (by omega) ?_
      exact next _ ⟨f9, w11, w23, _, _, _, _, _, _, _, _, _, _, _, _, _, _, _, _, _, _, _, _, _, rfl, hC1, hM2⟩
    · exact absurd hc hc2
  · refine J_st (.int ((if ¬ hasB (nI N) (xs (i + 1)) = true then 1 else (if ((xs (i + 2)) < 0 ∨ 30 < (xs (i + 2))) then 2 else 0)) : Int32) :: []) rfl ?_
    refine J_ws ((wOu Z ou f9 ++ w11) ++ w2) rfl ?_
    refine J_istore [(5, .int ((if ¬ hasB (nI N) (xs (i + 1)) = true then 1 else (if ((xs (i + 2)) < 0 ∨ 30 < (xs (i + 2))) then 2 else 0)) : Int32)), (4, .int (nI i)), (0, .ref b), (1, .ref (x 0)), (2, .ref (mo 0)), (3, .ref (ou 0))] C iL_law_1598 (by decide) rfl ?_
    refine J_aload_n C iL_law_1600 rfl rfl ?_
    refine J_aload_n C iL_law_1601 rfl rfl ?_
    refine J_iload C iL_law_1602 rfl ?_
    refine J_iconst 1 C iL_law_1604 rfl ?_
    refine J_iadd C iL_law_1605 ?_
    rw [show (nI i) + 1 = nI (i + 1) from nI_add _ _]
    refine J_sld C S iL_law_1606 (vp_in_nI (n := (i + 1)) (by omega) (by omega)) ?_
    rw [nI_clamp (n := (i + 1)) (by omega)]
    refine J_aload_n C iL_law_1607 rfl rfl ?_
    refine J_iload C iL_law_1608 rfl ?_
    refine J_iconst 2 C iL_law_1610 rfl ?_
    refine J_iadd C iL_law_1611 ?_
    rw [show (nI i) + 2 = nI (i + 2) from nI_add _ _]
    refine J_sld C S iL_law_1612 (vp_in_nI (n := (i + 2)) (by omega) (by omega)) ?_
    rw [nI_clamp (n := (i + 2)) (by omega)]
    obtain ⟨fs2, hq2⟩ := hM.head
    refine J_cVb (ci := 9) (As := [.int (xs (i + 1)), .int (xs (i + 2))]) (st := []) (rc2 := (rc + 14)) (rs2 := (rs + 2988)) (w0 := w2) C iL_law_1613 lm_L_209 yc_X10_build yv_X10_build (n_X10_build hM) rfl rfl hq2 (wOu Z ou f9 ++ w11) [] (by simp only [List.append_nil]) rfl ⟨Nat.le_of_ble_eq_true rfl, Nat.le_of_ble_eq_true rfl⟩ (Nat.le_of_ble_eq_true rfl) (by show (rc + 14) = 0 + (rc + 14); omega) (by show (rs + 2988) = 0 + (rs + 2988); omega) ?_
    rintro _ w22 (⟨hc2, rfl, hM1⟩ | ⟨z9, hc2, rfl, hM1⟩)
    · exact absurd hc2 hc
    · refine J_st (.int z9 :: []) rfl ?_
      refine J_ws ((wOu Z ou f9 ++ w11) ++ w22) (by simp only [List.append_nil]) ?_
      refine J_istore [(6, .int z9), (5, .int ((if ¬ hasB (nI N) (xs (i + 1)) = true then 1 else (if ((xs (i + 2)) < 0 ∨ 30 < (xs (i + 2))) then 2 else 0)) : Int32)), (4, .int (nI i)), (0, .ref b), (1, .ref (x 0)), (2, .ref (mo 0)), (3, .ref (ou 0))] C iL_law_1616 (by decide) rfl ?_
      refine J_aload_n C iL_law_1618 rfl rfl ?_
      obtain ⟨fs3, hq3⟩ := hM1.head
      refine J_cVb (ci := 9) (As := []) (st := []) (rc2 := (rc + 14)) (rs2 := (rs + 2988)) (w0 := w22) C iL_law_1619 lm_L_111 yc_X10_thrown yv_X10_thrown (n_X10_thrown hM1) rfl rfl hq3 (wOu Z ou f9 ++ w11) [] (by simp only [List.append_nil]) rfl ⟨Nat.le_of_ble_eq_true rfl, Nat.le_of_ble_eq_true rfl⟩ (Nat.le_of_ble_eq_true rfl) (by show (rc + 14) = 0 + (rc + 14); omega) (by show (rs + 2988) = 0 + (rs + 2988); omega) ?_
      rintro _ w23 ⟨rfl, hM2⟩
      refine J_st (.int ((if ¬ hasB (nI N) (xs (i + 1)) = true then 1 else (if ((xs (i + 2)) < 0 ∨ 30 < (xs (i + 2))) then 2 else 0)) : Int32) :: []) rfl ?_
      refine J_ws ((wOu Z ou f9 ++ w11) ++ w23) (by simp only [List.append_nil]) ?_
      refine J_iload C iL_law_1622 rfl ?_
      refine J_icmpeq 1629 C iL_law_1624 rfl (fun h1624 => ?_) (fun h1624 => absurd rfl h1624)
      refine J_iload C iL_law_1629 rfl ?_
      refine J_ifne 1646 C iL_law_1631 rfl (fun h1631 => ?_) (fun h1631 => absurd h1631 hc)
      refine J_goto 2021 C iL_law_1646 rfl ?_
      refine J_lvm [(4, .int (nI i)), (0, .ref b), (1, .ref (x 0)), (2, .ref (mo 0)), (3, .ref (ou 0))] rfl ?_
      refine J_less rc rs (by omega) (by omega) ?_
      exact next _ ⟨f9, w11, w23, _, _, _, _, _, _, _, _, _, _, _, _, _, _, _, _, _, _, _, _, _, rfl, hC1, hM2⟩

set_option maxRecDepth 100000 in
set_option maxHeartbeats 4000000 in
/-- case 29: move -/
theorem law_29 {Z : GZ} {X : CX} {Q : State → Prop} {rc rs : Nat} (C : Cx Z X cL_law 9 RL) (hV : VN (cS X)) (hl : (cL X).stackTraces = false) {b L i : Nat} {xs : Nat → Int32} (S : Sc X b L xs) (hL : L ≤ 3072) (hi : i + 6 ≤ L) {x mo ou : Nat → Nat} {f : Nat → Int64} {w1 w2 : va_W} {th : Int32} {N u tm : Nat} {er dg co : Int32} {pP pH pF pT op f1 f2 l0 tb : Nat → Int32} {hh c0 c1 c2 c3 : Nat → Nat} (hC : CI Z x N u tm er dg co pP pH pF pT op f1 f2 l0 hh c0 c1 c2 c3 tb w1) (hM : MI Z mo th N u tm er dg co pP pH pF pT op f1 f2 l0 hh c0 c1 c2 c3 tb w2) (next : ∀ w9, LI Z x mo ou w9 → Jd Z X room_1 9 Q rc rs 2021 [(4, .int (nI i)), (0, .ref b), (1, .ref (x 0)), (2, .ref (mo 0)), (3, .ref (ou 0))] [] w9) : Jd Z X room_1 9 Q (rc + 16) (rs + 3000) 1649 [(4, .int (nI i)), (0, .ref b), (1, .ref (x 0)), (2, .ref (mo 0)), (3, .ref (ou 0))] [] ((wOu Z ou f ++ w1) ++ w2) := by
  refine J_aload_n C iL_law_1649 rfl rfl ?_
  refine J_aload_n C iL_law_1650 rfl rfl ?_
  refine J_iload C iL_law_1651 rfl ?_
  refine J_iconst 1 C iL_law_1653 rfl ?_
  refine J_iadd C iL_law_1654 ?_
  rw [show (nI i) + 1 = nI (i + 1) from nI_add _ _]
  refine J_sld C S iL_law_1655 (vp_in_nI (n := (i + 1)) (by omega) (by omega)) ?_
  rw [nI_clamp (n := (i + 1)) (by omega)]
  refine J_aload_n C iL_law_1656 rfl rfl ?_
  refine J_iload C iL_law_1657 rfl ?_
  refine J_iconst 2 C iL_law_1659 rfl ?_
  refine J_iadd C iL_law_1660 ?_
  rw [show (nI i) + 2 = nI (i + 2) from nI_add _ _]
  refine J_sld C S iL_law_1661 (vp_in_nI (n := (i + 2)) (by omega) (by omega)) ?_
  rw [nI_clamp (n := (i + 2)) (by omega)]
  refine J_aload_n C iL_law_1662 rfl rfl ?_
  refine J_cSL (As := [.ref (x 0), .int (xs (i + 1)), .int (xs (i + 2)), .ref (ou 0)]) (st := []) (rc2 := (rc + 13)) (rs2 := (rs + 2982)) (w0 := wOu Z ou f ++ w1) C hV iL_law_1663 lm_L_210 ycw_L_move ys_L_move (k_move hl hC) [] w2 rfl rfl ⟨Nat.le_of_ble_eq_true rfl, Nat.le_of_ble_eq_true rfl⟩ (Nat.le_of_ble_eq_true rfl) (by show (rc + 16) = 3 + (rc + 13); omega) (by show (rs + 3000) = 18 + (rs + 2982); omega) ?_
  rintro _ w10 ⟨rfl, f9, w11, rfl, ⟨hc, hv, hC1⟩ | ⟨hc, hC1⟩⟩
  · refine J_st (.int ((if ¬ hasB (nI N) (xs (i + 1)) = true then 1 else (if ((xs (i + 2)) < 0 ∨ 99 < (xs (i + 2))) then 2 else (if (∃ j, j < N ∧ ¬ nI j = (xs (i + 1)) ∧ stAt (nI N) (nI j) pP (-1) = (xs (i + 2))) then 3 else 0))) : Int32) :: []) rfl ?_
    refine J_ws ((wOu Z ou f9 ++ w11) ++ w2) rfl ?_
    refine J_istore [(5, .int ((if ¬ hasB (nI N) (xs (i + 1)) = true then 1 else (if ((xs (i + 2)) < 0 ∨ 99 < (xs (i + 2))) then 2 else (if (∃ j, j < N ∧ ¬ nI j = (xs (i + 1)) ∧ stAt (nI N) (nI j) pP (-1) = (xs (i + 2))) then 3 else 0))) : Int32)), (4, .int (nI i)), (0, .ref b), (1, .ref (x 0)), (2, .ref (mo 0)), (3, .ref (ou 0))] C iL_law_1666 (by decide) rfl ?_
    refine J_aload_n C iL_law_1668 rfl rfl ?_
    refine J_aload_n C iL_law_1669 rfl rfl ?_
    refine J_iload C iL_law_1670 rfl ?_
    refine J_iconst 1 C iL_law_1672 rfl ?_
    refine J_iadd C iL_law_1673 ?_
    rw [show (nI i) + 1 = nI (i + 1) from nI_add _ _]
    refine J_sld C S iL_law_1674 (vp_in_nI (n := (i + 1)) (by omega) (by omega)) ?_
    rw [nI_clamp (n := (i + 1)) (by omega)]
    refine J_aload_n C iL_law_1675 rfl rfl ?_
    refine J_iload C iL_law_1676 rfl ?_
    refine J_iconst 2 C iL_law_1678 rfl ?_
    refine J_iadd C iL_law_1679 ?_
    rw [show (nI i) + 2 = nI (i + 2) from nI_add _ _]
    refine J_sld C S iL_law_1680 (vp_in_nI (n := (i + 2)) (by omega) (by omega)) ?_
    rw [nI_clamp (n := (i + 2)) (by omega)]
    obtain ⟨fs2, hq2⟩ := hM.head
    refine J_cVb (ci := 9) (As := [.int (xs (i + 1)), .int (xs (i + 2))]) (st := []) (rc2 := (rc + 13)) (rs2 := (rs + 2982)) (w0 := w2) C iL_law_1681 lm_L_212 yc_X10_move yv_X10_move (n_X10_move hM) rfl rfl hq2 (wOu Z ou f9 ++ w11) [] (by simp only [List.append_nil]) rfl ⟨Nat.le_of_ble_eq_true rfl, Nat.le_of_ble_eq_true rfl⟩ (Nat.le_of_ble_eq_true rfl) (by show (rc + 13) = 0 + (rc + 13); omega) (by show (rs + 2982) = 0 + (rs + 2982); omega) ?_
    rintro _ w22 (⟨hc2, rfl, hM1⟩ | ⟨z9, hc2, rfl, hM1⟩)
    · refine J_st (.int (stAt (nI N) (xs (i + 1)) pP (-1)) :: []) rfl ?_
      refine J_ws ((wOu Z ou f9 ++ w11) ++ w22) (by simp only [List.append_nil]) ?_
      refine J_istore [(6, .int (stAt (nI N) (xs (i + 1)) pP (-1))), (5, .int ((if ¬ hasB (nI N) (xs (i + 1)) = true then 1 else (if ((xs (i + 2)) < 0 ∨ 99 < (xs (i + 2))) then 2 else (if (∃ j, j < N ∧ ¬ nI j = (xs (i + 1)) ∧ stAt (nI N) (nI j) pP (-1) = (xs (i + 2))) then 3 else 0))) : Int32)), (4, .int (nI i)), (0, .ref b), (1, .ref (x 0)), (2, .ref (mo 0)), (3, .ref (ou 0))] C iL_law_1684 (by decide) rfl ?_
      refine J_aload_n C iL_law_1686 rfl rfl ?_
      obtain ⟨fs3, hq3⟩ := hM1.head
      refine J_cVb (ci := 9) (As := []) (st := []) (rc2 := (rc + 13)) (rs2 := (rs + 2982)) (w0 := w22) C iL_law_1687 lm_L_111 yc_X10_thrown yv_X10_thrown (n_X10_thrown hM1) rfl rfl hq3 (wOu Z ou f9 ++ w11) [] (by simp only [List.append_nil]) rfl ⟨Nat.le_of_ble_eq_true rfl, Nat.le_of_ble_eq_true rfl⟩ (Nat.le_of_ble_eq_true rfl) (by show (rc + 13) = 0 + (rc + 13); omega) (by show (rs + 2982) = 0 + (rs + 2982); omega) ?_
      rintro _ w23 ⟨rfl, hM2⟩
      refine J_st (.int 0 :: []) rfl ?_
      refine J_ws ((wOu Z ou f9 ++ w11) ++ w23) (by simp only [List.append_nil]) ?_
      refine J_iload C iL_law_1690 rfl ?_
      refine J_icmpeq 1697 C iL_law_1692 rfl (fun h1692 => ?_) (fun h1692 => absurd hc.symm h1692)
      refine J_iload C iL_law_1697 rfl ?_
      refine J_ifne 1714 C iL_law_1699 rfl (fun h1699 => absurd hc h1699) (fun h1699 => ?_)
      refine J_aload_n C iL_law_1702 rfl rfl ?_
      refine J_iconst 0 C iL_law_1703 rfl ?_
      refine J_lald 0 C iL_law_1704 rfl (vp_in_nI (n := 0) (by omega) (by decide)) ?_
      rw [show Int32.toNatClampNeg 0 = 0 from rfl]
      refine J_iload C iL_law_1705 rfl ?_
      refine J_i2l C iL_law_1707 ?_
      refine J_lcmp C iL_law_1708 ?_
      refine J_ifeqL 1714 C iL_law_1709 rfl (fun h1709 => ?_) (fun h1709 => absurd hv h1709)
      refine J_goto 2021 C iL_law_1714 rfl ?_
      refine J_lvm [(4, .int (nI i)), (0, .ref b), (1, .ref (x 0)), (2, .ref (mo 0)), (3, .ref (ou 0))] rfl ?_
      refine J_less rc rs (by omega) (by omega) ?_
      exact next _ ⟨f9, w11, w23, _, _, _, _, _, _, _, _, _, _, _, _, _, _, _, _, _, _, _, _, _, rfl, hC1, hM2⟩
    · exact absurd hc hc2
  · refine J_st (.int ((if ¬ hasB (nI N) (xs (i + 1)) = true then 1 else (if ((xs (i + 2)) < 0 ∨ 99 < (xs (i + 2))) then 2 else (if (∃ j, j < N ∧ ¬ nI j = (xs (i + 1)) ∧ stAt (nI N) (nI j) pP (-1) = (xs (i + 2))) then 3 else 0))) : Int32) :: []) rfl ?_
    refine J_ws ((wOu Z ou f9 ++ w11) ++ w2) rfl ?_
    refine J_istore [(5, .int ((if ¬ hasB (nI N) (xs (i + 1)) = true then 1 else (if ((xs (i + 2)) < 0 ∨ 99 < (xs (i + 2))) then 2 else (if (∃ j, j < N ∧ ¬ nI j = (xs (i + 1)) ∧ stAt (nI N) (nI j) pP (-1) = (xs (i + 2))) then 3 else 0))) : Int32)), (4, .int (nI i)), (0, .ref b), (1, .ref (x 0)), (2, .ref (mo 0)), (3, .ref (ou 0))] C iL_law_1666 (by decide) rfl ?_
    refine J_aload_n C iL_law_1668 rfl rfl ?_
    refine J_aload_n C iL_law_1669 rfl rfl ?_
    refine J_iload C iL_law_1670 rfl ?_
    refine J_iconst 1 C iL_law_1672 rfl ?_
    refine J_iadd C iL_law_1673 ?_
    rw [show (nI i) + 1 = nI (i + 1) from nI_add _ _]
    refine J_sld C S iL_law_1674 (vp_in_nI (n := (i + 1)) (by omega) (by omega)) ?_
    rw [nI_clamp (n := (i + 1)) (by omega)]
    refine J_aload_n C iL_law_1675 rfl rfl ?_
    refine J_iload C iL_law_1676 rfl ?_
    refine J_iconst 2 C iL_law_1678 rfl ?_
    refine J_iadd C iL_law_1679 ?_
    rw [show (nI i) + 2 = nI (i + 2) from nI_add _ _]
    refine J_sld C S iL_law_1680 (vp_in_nI (n := (i + 2)) (by omega) (by omega)) ?_
    rw [nI_clamp (n := (i + 2)) (by omega)]
    obtain ⟨fs2, hq2⟩ := hM.head
    refine J_cVb (ci := 9) (As := [.int (xs (i + 1)), .int (xs (i + 2))]) (st := []) (rc2 := (rc + 13)) (rs2 := (rs + 2982)) (w0 := w2) C iL_law_1681 lm_L_212 yc_X10_move yv_X10_move (n_X10_move hM) rfl rfl hq2 (wOu Z ou f9 ++ w11) [] (by simp only [List.append_nil]) rfl ⟨Nat.le_of_ble_eq_true rfl, Nat.le_of_ble_eq_true rfl⟩ (Nat.le_of_ble_eq_true rfl) (by show (rc + 13) = 0 + (rc + 13); omega) (by show (rs + 2982) = 0 + (rs + 2982); omega) ?_
    rintro _ w22 (⟨hc2, rfl, hM1⟩ | ⟨z9, hc2, rfl, hM1⟩)
    · exact absurd hc2 hc
    · refine J_st (.int z9 :: []) rfl ?_
      refine J_ws ((wOu Z ou f9 ++ w11) ++ w22) (by simp only [List.append_nil]) ?_
      refine J_istore [(6, .int z9), (5, .int ((if ¬ hasB (nI N) (xs (i + 1)) = true then 1 else (if ((xs (i + 2)) < 0 ∨ 99 < (xs (i + 2))) then 2 else (if (∃ j, j < N ∧ ¬ nI j = (xs (i + 1)) ∧ stAt (nI N) (nI j) pP (-1) = (xs (i + 2))) then 3 else 0))) : Int32)), (4, .int (nI i)), (0, .ref b), (1, .ref (x 0)), (2, .ref (mo 0)), (3, .ref (ou 0))] C iL_law_1684 (by decide) rfl ?_
      refine J_aload_n C iL_law_1686 rfl rfl ?_
      obtain ⟨fs3, hq3⟩ := hM1.head
      refine J_cVb (ci := 9) (As := []) (st := []) (rc2 := (rc + 13)) (rs2 := (rs + 2982)) (w0 := w22) C iL_law_1687 lm_L_111 yc_X10_thrown yv_X10_thrown (n_X10_thrown hM1) rfl rfl hq3 (wOu Z ou f9 ++ w11) [] (by simp only [List.append_nil]) rfl ⟨Nat.le_of_ble_eq_true rfl, Nat.le_of_ble_eq_true rfl⟩ (Nat.le_of_ble_eq_true rfl) (by show (rc + 13) = 0 + (rc + 13); omega) (by show (rs + 2982) = 0 + (rs + 2982); omega) ?_
      rintro _ w23 ⟨rfl, hM2⟩
      refine J_st (.int ((if ¬ hasB (nI N) (xs (i + 1)) = true then 1 else (if ((xs (i + 2)) < 0 ∨ 99 < (xs (i + 2))) then 2 else (if (∃ j, j < N ∧ ¬ nI j = (xs (i + 1)) ∧ stAt (nI N) (nI j) pP (-1) = (xs (i + 2))) then 3 else 0))) : Int32) :: []) rfl ?_
      refine J_ws ((wOu Z ou f9 ++ w11) ++ w23) (by simp only [List.append_nil]) ?_
      refine J_iload C iL_law_1690 rfl ?_
      refine J_icmpeq 1697 C iL_law_1692 rfl (fun h1692 => ?_) (fun h1692 => absurd rfl h1692)
      refine J_iload C iL_law_1697 rfl ?_
      refine J_ifne 1714 C iL_law_1699 rfl (fun h1699 => ?_) (fun h1699 => absurd h1699 hc)
      refine J_goto 2021 C iL_law_1714 rfl ?_
      refine J_lvm [(4, .int (nI i)), (0, .ref b), (1, .ref (x 0)), (2, .ref (mo 0)), (3, .ref (ou 0))] rfl ?_
      refine J_less rc rs (by omega) (by omega) ?_
      exact next _ ⟨f9, w11, w23, _, _, _, _, _, _, _, _, _, _, _, _, _, _, _, _, _, _, _, _, _, rfl, hC1, hM2⟩

set_option maxRecDepth 100000 in
set_option maxHeartbeats 4000000 in
/-- case 30: passDays -/
theorem law_30 {Z : GZ} {X : CX} {Q : State → Prop} {rc rs : Nat} (C : Cx Z X cL_law 9 RL) (hV : VN (cS X)) (hl : (cL X).stackTraces = false) {b L i : Nat} {xs : Nat → Int32} (S : Sc X b L xs) (hL : L ≤ 3072) (hi : i + 6 ≤ L) {x mo ou : Nat → Nat} {f : Nat → Int64} {w1 w2 : va_W} {th : Int32} {N u tm : Nat} {er dg co : Int32} {pP pH pF pT op f1 f2 l0 tb : Nat → Int32} {hh c0 c1 c2 c3 : Nat → Nat} (hC : CI Z x N u tm er dg co pP pH pF pT op f1 f2 l0 hh c0 c1 c2 c3 tb w1) (hM : MI Z mo th N u tm er dg co pP pH pF pT op f1 f2 l0 hh c0 c1 c2 c3 tb w2) (next : ∀ w9, LI Z x mo ou w9 → Jd Z X room_1 9 Q rc rs 2021 [(4, .int (nI i)), (0, .ref b), (1, .ref (x 0)), (2, .ref (mo 0)), (3, .ref (ou 0))] [] w9) : Jd Z X room_1 9 Q (rc + 16) (rs + 3000) 1717 [(4, .int (nI i)), (0, .ref b), (1, .ref (x 0)), (2, .ref (mo 0)), (3, .ref (ou 0))] [] ((wOu Z ou f ++ w1) ++ w2) := by
  refine J_aload_n C iL_law_1717 rfl rfl ?_
  refine J_aload_n C iL_law_1718 rfl rfl ?_
  refine J_iload C iL_law_1719 rfl ?_
  refine J_iconst 1 C iL_law_1721 rfl ?_
  refine J_iadd C iL_law_1722 ?_
  rw [show (nI i) + 1 = nI (i + 1) from nI_add _ _]
  refine J_sld C S iL_law_1723 (vp_in_nI (n := (i + 1)) (by omega) (by omega)) ?_
  rw [nI_clamp (n := (i + 1)) (by omega)]
  refine J_aload_n C iL_law_1724 rfl rfl ?_
  refine J_cSL (As := [.ref (x 0), .int (xs (i + 1)), .ref (ou 0)]) (st := []) (rc2 := (rc + 15)) (rs2 := (rs + 2994)) (w0 := wOu Z ou f ++ w1) C hV iL_law_1725 lm_L_213 ycw_L_passDays ys_L_passDays (k_passDays hl hC) [] w2 rfl rfl ⟨Nat.le_of_ble_eq_true rfl, Nat.le_of_ble_eq_true rfl⟩ (Nat.le_of_ble_eq_true rfl) (by show (rc + 16) = 1 + (rc + 15); omega) (by show (rs + 3000) = 6 + (rs + 2994); omega) ?_
  rintro _ w10 ⟨rfl, f9, w11, rfl, ⟨hc, hv, hC1⟩ | ⟨hc, hC1⟩⟩
  · refine J_st (.int ((if ((xs (i + 1)) < 1 ∨ 30 < (xs (i + 1))) then 1 else 0) : Int32) :: []) rfl ?_
    refine J_ws ((wOu Z ou f9 ++ w11) ++ w2) rfl ?_
    refine J_istore [(5, .int ((if ((xs (i + 1)) < 1 ∨ 30 < (xs (i + 1))) then 1 else 0) : Int32)), (4, .int (nI i)), (0, .ref b), (1, .ref (x 0)), (2, .ref (mo 0)), (3, .ref (ou 0))] C iL_law_1728 (by decide) rfl ?_
    refine J_aload_n C iL_law_1730 rfl rfl ?_
    refine J_aload_n C iL_law_1731 rfl rfl ?_
    refine J_iload C iL_law_1732 rfl ?_
    refine J_iconst 1 C iL_law_1734 rfl ?_
    refine J_iadd C iL_law_1735 ?_
    rw [show (nI i) + 1 = nI (i + 1) from nI_add _ _]
    refine J_sld C S iL_law_1736 (vp_in_nI (n := (i + 1)) (by omega) (by omega)) ?_
    rw [nI_clamp (n := (i + 1)) (by omega)]
    obtain ⟨fs2, hq2⟩ := hM.head
    refine J_cVb (ci := 9) (As := [.int (xs (i + 1))]) (st := []) (rc2 := (rc + 15)) (rs2 := (rs + 2994)) (w0 := w2) C iL_law_1737 lm_L_215 yc_X10_passDays yv_X10_passDays (n_X10_passDays hM) rfl rfl hq2 (wOu Z ou f9 ++ w11) [] (by simp only [List.append_nil]) rfl ⟨Nat.le_of_ble_eq_true rfl, Nat.le_of_ble_eq_true rfl⟩ (Nat.le_of_ble_eq_true rfl) (by show (rc + 15) = 0 + (rc + 15); omega) (by show (rs + 2994) = 0 + (rs + 2994); omega) ?_
    rintro _ w22 (⟨hc2, rfl, hM1⟩ | ⟨z9, hc2, rfl, hM1⟩)
    · refine J_st (.int ((dyN N pP op f1 f2 l0 hh c0 c1 c2 c3 u ((pH, pF, pT), co, dg) (xs (i + 1)).toNatClampNeg).2.1 - co) :: []) rfl ?_
      refine J_ws ((wOu Z ou f9 ++ w11) ++ w22) (by simp only [List.append_nil]) ?_
      refine J_istore [(6, .int ((dyN N pP op f1 f2 l0 hh c0 c1 c2 c3 u ((pH, pF, pT), co, dg) (xs (i + 1)).toNatClampNeg).2.1 - co)), (5, .int ((if ((xs (i + 1)) < 1 ∨ 30 < (xs (i + 1))) then 1 else 0) : Int32)), (4, .int (nI i)), (0, .ref b), (1, .ref (x 0)), (2, .ref (mo 0)), (3, .ref (ou 0))] C iL_law_1740 (by decide) rfl ?_
      refine J_aload_n C iL_law_1742 rfl rfl ?_
      obtain ⟨fs3, hq3⟩ := hM1.head
      refine J_cVb (ci := 9) (As := []) (st := []) (rc2 := (rc + 15)) (rs2 := (rs + 2994)) (w0 := w22) C iL_law_1743 lm_L_111 yc_X10_thrown yv_X10_thrown (n_X10_thrown hM1) rfl rfl hq3 (wOu Z ou f9 ++ w11) [] (by simp only [List.append_nil]) rfl ⟨Nat.le_of_ble_eq_true rfl, Nat.le_of_ble_eq_true rfl⟩ (Nat.le_of_ble_eq_true rfl) (by show (rc + 15) = 0 + (rc + 15); omega) (by show (rs + 2994) = 0 + (rs + 2994); omega) ?_
      rintro _ w23 ⟨rfl, hM2⟩
      refine J_st (.int 0 :: []) rfl ?_
      refine J_ws ((wOu Z ou f9 ++ w11) ++ w23) (by simp only [List.append_nil]) ?_
      refine J_iload C iL_law_1746 rfl ?_
      refine J_icmpeq 1753 C iL_law_1748 rfl (fun h1748 => ?_) (fun h1748 => absurd hc.symm h1748)
      refine J_iload C iL_law_1753 rfl ?_
      refine J_ifne 1770 C iL_law_1755 rfl (fun h1755 => absurd hc h1755) (fun h1755 => ?_)
      refine J_aload_n C iL_law_1758 rfl rfl ?_
      refine J_iconst 0 C iL_law_1759 rfl ?_
      refine J_lald 0 C iL_law_1760 rfl (vp_in_nI (n := 0) (by omega) (by decide)) ?_
      rw [show Int32.toNatClampNeg 0 = 0 from rfl]
      refine J_iload C iL_law_1761 rfl ?_
      refine J_i2l C iL_law_1763 ?_
      refine J_lcmp C iL_law_1764 ?_
      refine J_ifeqL 1770 C iL_law_1765 rfl (fun h1765 => ?_) (fun h1765 => absurd hv h1765)
      refine J_goto 2021 C iL_law_1770 rfl ?_
      refine J_lvm [(4, .int (nI i)), (0, .ref b), (1, .ref (x 0)), (2, .ref (mo 0)), (3, .ref (ou 0))] rfl ?_
      refine J_less rc rs (by omega) (by omega) ?_
      exact next _ ⟨f9, w11, w23, _, _, _, _, _, _, _, _, _, _, _, _, _, _, _, _, _, _, _, _, _, rfl, hC1, hM2⟩
    · exact absurd hc hc2
  · refine J_st (.int ((if ((xs (i + 1)) < 1 ∨ 30 < (xs (i + 1))) then 1 else 0) : Int32) :: []) rfl ?_
    refine J_ws ((wOu Z ou f9 ++ w11) ++ w2) rfl ?_
    refine J_istore [(5, .int ((if ((xs (i + 1)) < 1 ∨ 30 < (xs (i + 1))) then 1 else 0) : Int32)), (4, .int (nI i)), (0, .ref b), (1, .ref (x 0)), (2, .ref (mo 0)), (3, .ref (ou 0))] C iL_law_1728 (by decide) rfl ?_
    refine J_aload_n C iL_law_1730 rfl rfl ?_
    refine J_aload_n C iL_law_1731 rfl rfl ?_
    refine J_iload C iL_law_1732 rfl ?_
    refine J_iconst 1 C iL_law_1734 rfl ?_
    refine J_iadd C iL_law_1735 ?_
    rw [show (nI i) + 1 = nI (i + 1) from nI_add _ _]
    refine J_sld C S iL_law_1736 (vp_in_nI (n := (i + 1)) (by omega) (by omega)) ?_
    rw [nI_clamp (n := (i + 1)) (by omega)]
    obtain ⟨fs2, hq2⟩ := hM.head
    refine J_cVb (ci := 9) (As := [.int (xs (i + 1))]) (st := []) (rc2 := (rc + 15)) (rs2 := (rs + 2994)) (w0 := w2) C iL_law_1737 lm_L_215 yc_X10_passDays yv_X10_passDays (n_X10_passDays hM) rfl rfl hq2 (wOu Z ou f9 ++ w11) [] (by simp only [List.append_nil]) rfl ⟨Nat.le_of_ble_eq_true rfl, Nat.le_of_ble_eq_true rfl⟩ (Nat.le_of_ble_eq_true rfl) (by show (rc + 15) = 0 + (rc + 15); omega) (by show (rs + 2994) = 0 + (rs + 2994); omega) ?_
    rintro _ w22 (⟨hc2, rfl, hM1⟩ | ⟨z9, hc2, rfl, hM1⟩)
    · exact absurd hc2 hc
    · refine J_st (.int z9 :: []) rfl ?_
      refine J_ws ((wOu Z ou f9 ++ w11) ++ w22) (by simp only [List.append_nil]) ?_
      refine J_istore [(6, .int z9), (5, .int ((if ((xs (i + 1)) < 1 ∨ 30 < (xs (i + 1))) then 1 else 0) : Int32)), (4, .int (nI i)), (0, .ref b), (1, .ref (x 0)), (2, .ref (mo 0)), (3, .ref (ou 0))] C iL_law_1740 (by decide) rfl ?_
      refine J_aload_n C iL_law_1742 rfl rfl ?_
      obtain ⟨fs3, hq3⟩ := hM1.head
      refine J_cVb (ci := 9) (As := []) (st := []) (rc2 := (rc + 15)) (rs2 := (rs + 2994)) (w0 := w22) C iL_law_1743 lm_L_111 yc_X10_thrown yv_X10_thrown (n_X10_thrown hM1) rfl rfl hq3 (wOu Z ou f9 ++ w11) [] (by simp only [List.append_nil]) rfl ⟨Nat.le_of_ble_eq_true rfl, Nat.le_of_ble_eq_true rfl⟩ (Nat.le_of_ble_eq_true rfl) (by show (rc + 15) = 0 + (rc + 15); omega) (by show (rs + 2994) = 0 + (rs + 2994); omega) ?_
      rintro _ w23 ⟨rfl, hM2⟩
      refine J_st (.int ((if ((xs (i + 1)) < 1 ∨ 30 < (xs (i + 1))) then 1 else 0) : Int32) :: []) rfl ?_
      refine J_ws ((wOu Z ou f9 ++ w11) ++ w23) (by simp only [List.append_nil]) ?_
      refine J_iload C iL_law_1746 rfl ?_
      refine J_icmpeq 1753 C iL_law_1748 rfl (fun h1748 => ?_) (fun h1748 => absurd rfl h1748)
      refine J_iload C iL_law_1753 rfl ?_
      refine J_ifne 1770 C iL_law_1755 rfl (fun h1755 => ?_) (fun h1755 => absurd h1755 hc)
      refine J_goto 2021 C iL_law_1770 rfl ?_
      refine J_lvm [(4, .int (nI i)), (0, .ref b), (1, .ref (x 0)), (2, .ref (mo 0)), (3, .ref (ou 0))] rfl ?_
      refine J_less rc rs (by omega) (by omega) ?_
      exact next _ ⟨f9, w11, w23, _, _, _, _, _, _, _, _, _, _, _, _, _, _, _, _, _, _, _, _, _, rfl, hC1, hM2⟩

set_option maxRecDepth 100000 in
set_option maxHeartbeats 4000000 in
/-- case 31: lostAfter -/
theorem law_31 {Z : GZ} {X : CX} {Q : State → Prop} {rc rs : Nat} (C : Cx Z X cL_law 9 RL) (hV : VN (cS X)) (hl : (cL X).stackTraces = false) {b L i : Nat} {xs : Nat → Int32} (S : Sc X b L xs) (hL : L ≤ 3072) (hi : i + 6 ≤ L) {x mo ou : Nat → Nat} {f : Nat → Int64} {w1 w2 : va_W} {th : Int32} {N u tm : Nat} {er dg co : Int32} {pP pH pF pT op f1 f2 l0 tb : Nat → Int32} {hh c0 c1 c2 c3 : Nat → Nat} (hC : CI Z x N u tm er dg co pP pH pF pT op f1 f2 l0 hh c0 c1 c2 c3 tb w1) (hM : MI Z mo th N u tm er dg co pP pH pF pT op f1 f2 l0 hh c0 c1 c2 c3 tb w2) (next : ∀ w9, LI Z x mo ou w9 → Jd Z X room_1 9 Q rc rs 2021 [(4, .int (nI i)), (0, .ref b), (1, .ref (x 0)), (2, .ref (mo 0)), (3, .ref (ou 0))] [] w9) : Jd Z X room_1 9 Q (rc + 16) (rs + 3000) 1773 [(4, .int (nI i)), (0, .ref b), (1, .ref (x 0)), (2, .ref (mo 0)), (3, .ref (ou 0))] [] ((wOu Z ou f ++ w1) ++ w2) := by
  refine J_aload_n C iL_law_1773 rfl rfl ?_
  refine J_aload_n C iL_law_1774 rfl rfl ?_
  refine J_iload C iL_law_1775 rfl ?_
  refine J_iconst 1 C iL_law_1777 rfl ?_
  refine J_iadd C iL_law_1778 ?_
  rw [show (nI i) + 1 = nI (i + 1) from nI_add _ _]
  refine J_sld C S iL_law_1779 (vp_in_nI (n := (i + 1)) (by omega) (by omega)) ?_
  rw [nI_clamp (n := (i + 1)) (by omega)]
  refine J_aload_n C iL_law_1780 rfl rfl ?_
  refine J_cSL (As := [.ref (x 0), .int (xs (i + 1)), .ref (ou 0)]) (st := []) (rc2 := (rc + 15)) (rs2 := (rs + 2994)) (w0 := wOu Z ou f ++ w1) C hV iL_law_1781 lm_L_216 ycw_L_lostAfter ys_L_lostAfter (k_lostAfter hl hC) [] w2 rfl rfl ⟨Nat.le_of_ble_eq_true rfl, Nat.le_of_ble_eq_true rfl⟩ (Nat.le_of_ble_eq_true rfl) (by show (rc + 16) = 1 + (rc + 15); omega) (by show (rs + 3000) = 6 + (rs + 2994); omega) ?_
  rintro _ w10 ⟨rfl, f9, w11, rfl, ⟨hc, hv, hC1⟩ | ⟨hc, hC1⟩⟩
  · refine J_st (.int ((if ((xs (i + 1)) < 1 ∨ 30 < (xs (i + 1))) then 1 else 0) : Int32) :: []) rfl ?_
    refine J_ws ((wOu Z ou f9 ++ w11) ++ w2) rfl ?_
    refine J_istore [(5, .int ((if ((xs (i + 1)) < 1 ∨ 30 < (xs (i + 1))) then 1 else 0) : Int32)), (4, .int (nI i)), (0, .ref b), (1, .ref (x 0)), (2, .ref (mo 0)), (3, .ref (ou 0))] C iL_law_1784 (by decide) rfl ?_
    refine J_aload_n C iL_law_1786 rfl rfl ?_
    refine J_aload_n C iL_law_1787 rfl rfl ?_
    refine J_iload C iL_law_1788 rfl ?_
    refine J_iconst 1 C iL_law_1790 rfl ?_
    refine J_iadd C iL_law_1791 ?_
    rw [show (nI i) + 1 = nI (i + 1) from nI_add _ _]
    refine J_sld C S iL_law_1792 (vp_in_nI (n := (i + 1)) (by omega) (by omega)) ?_
    rw [nI_clamp (n := (i + 1)) (by omega)]
    obtain ⟨fs2, hq2⟩ := hM.head
    refine J_cVb (ci := 9) (As := [.int (xs (i + 1))]) (st := []) (rc2 := (rc + 15)) (rs2 := (rs + 2994)) (w0 := w2) C iL_law_1793 lm_L_218 yc_X10_lostAfter yv_X10_lostAfter (n_X10_lostAfter hM) rfl rfl hq2 (wOu Z ou f9 ++ w11) [] (by simp only [List.append_nil]) rfl ⟨Nat.le_of_ble_eq_true rfl, Nat.le_of_ble_eq_true rfl⟩ (Nat.le_of_ble_eq_true rfl) (by show (rc + 15) = 0 + (rc + 15); omega) (by show (rs + 2994) = 0 + (rs + 2994); omega) ?_
    rintro _ w22 (⟨hc2, rfl, hM1⟩ | ⟨z9, hc2, rfl, hM1⟩)
    · refine J_st (.int (lgD N pP (dyN N pP op f1 f2 l0 hh c0 c1 c2 c3 u ((pH, pF, pT), co, dg) (xs (i + 1)).toNatClampNeg)) :: []) rfl ?_
      refine J_ws ((wOu Z ou f9 ++ w11) ++ w22) (by simp only [List.append_nil]) ?_
      refine J_istore [(6, .int (lgD N pP (dyN N pP op f1 f2 l0 hh c0 c1 c2 c3 u ((pH, pF, pT), co, dg) (xs (i + 1)).toNatClampNeg))), (5, .int ((if ((xs (i + 1)) < 1 ∨ 30 < (xs (i + 1))) then 1 else 0) : Int32)), (4, .int (nI i)), (0, .ref b), (1, .ref (x 0)), (2, .ref (mo 0)), (3, .ref (ou 0))] C iL_law_1796 (by decide) rfl ?_
      refine J_aload_n C iL_law_1798 rfl rfl ?_
      obtain ⟨fs3, hq3⟩ := hM1.head
      refine J_cVb (ci := 9) (As := []) (st := []) (rc2 := (rc + 15)) (rs2 := (rs + 2994)) (w0 := w22) C iL_law_1799 lm_L_111 yc_X10_thrown yv_X10_thrown (n_X10_thrown hM1) rfl rfl hq3 (wOu Z ou f9 ++ w11) [] (by simp only [List.append_nil]) rfl ⟨Nat.le_of_ble_eq_true rfl, Nat.le_of_ble_eq_true rfl⟩ (Nat.le_of_ble_eq_true rfl) (by show (rc + 15) = 0 + (rc + 15); omega) (by show (rs + 2994) = 0 + (rs + 2994); omega) ?_
      rintro _ w23 ⟨rfl, hM2⟩
      refine J_st (.int 0 :: []) rfl ?_
      refine J_ws ((wOu Z ou f9 ++ w11) ++ w23) (by simp only [List.append_nil]) ?_
      refine J_iload C iL_law_1802 rfl ?_
      refine J_icmpeq 1809 C iL_law_1804 rfl (fun h1804 => ?_) (fun h1804 => absurd hc.symm h1804)
      refine J_iload C iL_law_1809 rfl ?_
      refine J_ifne 1826 C iL_law_1811 rfl (fun h1811 => absurd hc h1811) (fun h1811 => ?_)
      refine J_aload_n C iL_law_1814 rfl rfl ?_
      refine J_iconst 0 C iL_law_1815 rfl ?_
      refine J_lald 0 C iL_law_1816 rfl (vp_in_nI (n := 0) (by omega) (by decide)) ?_
      rw [show Int32.toNatClampNeg 0 = 0 from rfl]
      refine J_iload C iL_law_1817 rfl ?_
      refine J_i2l C iL_law_1819 ?_
      refine J_lcmp C iL_law_1820 ?_
      refine J_ifeqL 1826 C iL_law_1821 rfl (fun h1821 => ?_) (fun h1821 => absurd hv h1821)
      refine J_goto 2021 C iL_law_1826 rfl ?_
      refine J_lvm [(4, .int (nI i)), (0, .ref b), (1, .ref (x 0)), (2, .ref (mo 0)), (3, .ref (ou 0))] rfl ?_
      refine J_less rc rs (by omega) (by omega) ?_
      exact next _ ⟨f9, w11, w23, _, _, _, _, _, _, _, _, _, _, _, _, _, _, _, _, _, _, _, _, _, rfl, hC1, hM2⟩
    · exact absurd hc hc2
  · refine J_st (.int ((if ((xs (i + 1)) < 1 ∨ 30 < (xs (i + 1))) then 1 else 0) : Int32) :: []) rfl ?_
    refine J_ws ((wOu Z ou f9 ++ w11) ++ w2) rfl ?_
    refine J_istore [(5, .int ((if ((xs (i + 1)) < 1 ∨ 30 < (xs (i + 1))) then 1 else 0) : Int32)), (4, .int (nI i)), (0, .ref b), (1, .ref (x 0)), (2, .ref (mo 0)), (3, .ref (ou 0))] C iL_law_1784 (by decide) rfl ?_
    refine J_aload_n C iL_law_1786 rfl rfl ?_
    refine J_aload_n C iL_law_1787 rfl rfl ?_
    refine J_iload C iL_law_1788 rfl ?_
    refine J_iconst 1 C iL_law_1790 rfl ?_
    refine J_iadd C iL_law_1791 ?_
    rw [show (nI i) + 1 = nI (i + 1) from nI_add _ _]
    refine J_sld C S iL_law_1792 (vp_in_nI (n := (i + 1)) (by omega) (by omega)) ?_
    rw [nI_clamp (n := (i + 1)) (by omega)]
    obtain ⟨fs2, hq2⟩ := hM.head
    refine J_cVb (ci := 9) (As := [.int (xs (i + 1))]) (st := []) (rc2 := (rc + 15)) (rs2 := (rs + 2994)) (w0 := w2) C iL_law_1793 lm_L_218 yc_X10_lostAfter yv_X10_lostAfter (n_X10_lostAfter hM) rfl rfl hq2 (wOu Z ou f9 ++ w11) [] (by simp only [List.append_nil]) rfl ⟨Nat.le_of_ble_eq_true rfl, Nat.le_of_ble_eq_true rfl⟩ (Nat.le_of_ble_eq_true rfl) (by show (rc + 15) = 0 + (rc + 15); omega) (by show (rs + 2994) = 0 + (rs + 2994); omega) ?_
    rintro _ w22 (⟨hc2, rfl, hM1⟩ | ⟨z9, hc2, rfl, hM1⟩)
    · exact absurd hc2 hc
    · refine J_st (.int z9 :: []) rfl ?_
      refine J_ws ((wOu Z ou f9 ++ w11) ++ w22) (by simp only [List.append_nil]) ?_
      refine J_istore [(6, .int z9), (5, .int ((if ((xs (i + 1)) < 1 ∨ 30 < (xs (i + 1))) then 1 else 0) : Int32)), (4, .int (nI i)), (0, .ref b), (1, .ref (x 0)), (2, .ref (mo 0)), (3, .ref (ou 0))] C iL_law_1796 (by decide) rfl ?_
      refine J_aload_n C iL_law_1798 rfl rfl ?_
      obtain ⟨fs3, hq3⟩ := hM1.head
      refine J_cVb (ci := 9) (As := []) (st := []) (rc2 := (rc + 15)) (rs2 := (rs + 2994)) (w0 := w22) C iL_law_1799 lm_L_111 yc_X10_thrown yv_X10_thrown (n_X10_thrown hM1) rfl rfl hq3 (wOu Z ou f9 ++ w11) [] (by simp only [List.append_nil]) rfl ⟨Nat.le_of_ble_eq_true rfl, Nat.le_of_ble_eq_true rfl⟩ (Nat.le_of_ble_eq_true rfl) (by show (rc + 15) = 0 + (rc + 15); omega) (by show (rs + 2994) = 0 + (rs + 2994); omega) ?_
      rintro _ w23 ⟨rfl, hM2⟩
      refine J_st (.int ((if ((xs (i + 1)) < 1 ∨ 30 < (xs (i + 1))) then 1 else 0) : Int32) :: []) rfl ?_
      refine J_ws ((wOu Z ou f9 ++ w11) ++ w23) (by simp only [List.append_nil]) ?_
      refine J_iload C iL_law_1802 rfl ?_
      refine J_icmpeq 1809 C iL_law_1804 rfl (fun h1804 => ?_) (fun h1804 => absurd rfl h1804)
      refine J_iload C iL_law_1809 rfl ?_
      refine J_ifne 1826 C iL_law_1811 rfl (fun h1811 => ?_) (fun h1811 => absurd h1811 hc)
      refine J_goto 2021 C iL_law_1826 rfl ?_
      refine J_lvm [(4, .int (nI i)), (0, .ref b), (1, .ref (x 0)), (2, .ref (mo 0)), (3, .ref (ou 0))] rfl ?_
      refine J_less rc rs (by omega) (by omega) ?_
      exact next _ ⟨f9, w11, w23, _, _, _, _, _, _, _, _, _, _, _, _, _, _, _, _, _, _, _, _, _, rfl, hC1, hM2⟩

set_option maxRecDepth 100000 in
set_option maxHeartbeats 4000000 in
/-- case 33: fairCurfew -/
theorem law_33 {Z : GZ} {X : CX} {Q : State → Prop} {rc rs : Nat} (C : Cx Z X cL_law 9 RL) (hV : VN (cS X)) (hl : (cL X).stackTraces = false) {b L i : Nat} {xs : Nat → Int32} (S : Sc X b L xs) (hL : L ≤ 3072) (hi : i + 6 ≤ L) {x mo ou : Nat → Nat} {f : Nat → Int64} {w1 w2 : va_W} {th : Int32} {N u tm : Nat} {er dg co : Int32} {pP pH pF pT op f1 f2 l0 tb : Nat → Int32} {hh c0 c1 c2 c3 : Nat → Nat} (hC : CI Z x N u tm er dg co pP pH pF pT op f1 f2 l0 hh c0 c1 c2 c3 tb w1) (hM : MI Z mo th N u tm er dg co pP pH pF pT op f1 f2 l0 hh c0 c1 c2 c3 tb w2) (next : ∀ w9, LI Z x mo ou w9 → Jd Z X room_1 9 Q rc rs 2021 [(4, .int (nI i)), (0, .ref b), (1, .ref (x 0)), (2, .ref (mo 0)), (3, .ref (ou 0))] [] w9) : Jd Z X room_1 9 Q (rc + 16) (rs + 3000) 1842 [(4, .int (nI i)), (0, .ref b), (1, .ref (x 0)), (2, .ref (mo 0)), (3, .ref (ou 0))] [] ((wOu Z ou f ++ w1) ++ w2) := by
  refine J_aload_n C iL_law_1842 rfl rfl ?_
  refine J_aload_n C iL_law_1843 rfl rfl ?_
  refine J_iload C iL_law_1844 rfl ?_
  refine J_iconst 1 C iL_law_1846 rfl ?_
  refine J_iadd C iL_law_1847 ?_
  rw [show (nI i) + 1 = nI (i + 1) from nI_add _ _]
  refine J_sld C S iL_law_1848 (vp_in_nI (n := (i + 1)) (by omega) (by omega)) ?_
  rw [nI_clamp (n := (i + 1)) (by omega)]
  refine J_aload_n C iL_law_1849 rfl rfl ?_
  refine J_iload C iL_law_1850 rfl ?_
  refine J_iconst 2 C iL_law_1852 rfl ?_
  refine J_iadd C iL_law_1853 ?_
  rw [show (nI i) + 2 = nI (i + 2) from nI_add _ _]
  refine J_sld C S iL_law_1854 (vp_in_nI (n := (i + 2)) (by omega) (by omega)) ?_
  rw [nI_clamp (n := (i + 2)) (by omega)]
  refine J_aload_n C iL_law_1855 rfl rfl ?_
  refine J_cSL (As := [.ref (x 0), .int (xs (i + 1)), .int (xs (i + 2)), .ref (ou 0)]) (st := []) (rc2 := (rc + 14)) (rs2 := (rs + 2988)) (w0 := wOu Z ou f ++ w1) C hV iL_law_1856 lm_L_223 ycw_L_fairCurfew ys_L_fairCurfew (k_fairCurfew hl hC) [] w2 rfl rfl ⟨Nat.le_of_ble_eq_true rfl, Nat.le_of_ble_eq_true rfl⟩ (Nat.le_of_ble_eq_true rfl) (by show (rc + 16) = 2 + (rc + 14); omega) (by show (rs + 3000) = 12 + (rs + 2988); omega) ?_
  rintro _ w10 ⟨rfl, f9, w11, rfl, ⟨hc, hv, hC1⟩ | ⟨hc, hC1⟩⟩
  · refine J_st (.int ((if ¬ hasB (nI N) (xs (i + 1)) = true then 1 else (if ((xs (i + 2)) < 1 ∨ 13 < (xs (i + 2))) then 2 else 0)) : Int32) :: []) rfl ?_
    refine J_ws ((wOu Z ou f9 ++ w11) ++ w2) rfl ?_
    refine J_istore [(5, .int ((if ¬ hasB (nI N) (xs (i + 1)) = true then 1 else (if ((xs (i + 2)) < 1 ∨ 13 < (xs (i + 2))) then 2 else 0)) : Int32)), (4, .int (nI i)), (0, .ref b), (1, .ref (x 0)), (2, .ref (mo 0)), (3, .ref (ou 0))] C iL_law_1859 (by decide) rfl ?_
    refine J_aload_n C iL_law_1861 rfl rfl ?_
    refine J_aload_n C iL_law_1862 rfl rfl ?_
    refine J_iload C iL_law_1863 rfl ?_
    refine J_iconst 1 C iL_law_1865 rfl ?_
    refine J_iadd C iL_law_1866 ?_
    rw [show (nI i) + 1 = nI (i + 1) from nI_add _ _]
    refine J_sld C S iL_law_1867 (vp_in_nI (n := (i + 1)) (by omega) (by omega)) ?_
    rw [nI_clamp (n := (i + 1)) (by omega)]
    refine J_aload_n C iL_law_1868 rfl rfl ?_
    refine J_iload C iL_law_1869 rfl ?_
    refine J_iconst 2 C iL_law_1871 rfl ?_
    refine J_iadd C iL_law_1872 ?_
    rw [show (nI i) + 2 = nI (i + 2) from nI_add _ _]
    refine J_sld C S iL_law_1873 (vp_in_nI (n := (i + 2)) (by omega) (by omega)) ?_
    rw [nI_clamp (n := (i + 2)) (by omega)]
    obtain ⟨fs2, hq2⟩ := hM.head
    refine J_cVb (ci := 9) (As := [.int (xs (i + 1)), .int (xs (i + 2))]) (st := []) (rc2 := (rc + 14)) (rs2 := (rs + 2988)) (w0 := w2) C iL_law_1874 lm_L_225 yc_X10_fairCurfew yv_X10_fairCurfew (n_X10_fairCurfew hM) rfl rfl hq2 (wOu Z ou f9 ++ w11) [] (by simp only [List.append_nil]) rfl ⟨Nat.le_of_ble_eq_true rfl, Nat.le_of_ble_eq_true rfl⟩ (Nat.le_of_ble_eq_true rfl) (by show (rc + 14) = 0 + (rc + 14); omega) (by show (rs + 2988) = 0 + (rs + 2988); omega) ?_
    rintro _ w22 (⟨hc2, rfl, hM1⟩ | ⟨z9, hc2, rfl, hM1⟩)
    · refine J_st (.int ((frX (fcV N pP pH pF pT (xs (i + 2)).toNatClampNeg (xs (i + 1)).toNatClampNeg) (14 - (xs (i + 2)).toNatClampNeg)).1) :: []) rfl ?_
      refine J_ws ((wOu Z ou f9 ++ w11) ++ w22) (by simp only [List.append_nil]) ?_
      refine J_istore [(6, .int ((frX (fcV N pP pH pF pT (xs (i + 2)).toNatClampNeg (xs (i + 1)).toNatClampNeg) (14 - (xs (i + 2)).toNatClampNeg)).1)), (5, .int ((if ¬ hasB (nI N) (xs (i + 1)) = true then 1 else (if ((xs (i + 2)) < 1 ∨ 13 < (xs (i + 2))) then 2 else 0)) : Int32)), (4, .int (nI i)), (0, .ref b), (1, .ref (x 0)), (2, .ref (mo 0)), (3, .ref (ou 0))] C iL_law_1877 (by decide) rfl ?_
      refine J_aload_n C iL_law_1879 rfl rfl ?_
      obtain ⟨fs3, hq3⟩ := hM1.head
      refine J_cVb (ci := 9) (As := []) (st := []) (rc2 := (rc + 14)) (rs2 := (rs + 2988)) (w0 := w22) C iL_law_1880 lm_L_111 yc_X10_thrown yv_X10_thrown (n_X10_thrown hM1) rfl rfl hq3 (wOu Z ou f9 ++ w11) [] (by simp only [List.append_nil]) rfl ⟨Nat.le_of_ble_eq_true rfl, Nat.le_of_ble_eq_true rfl⟩ (Nat.le_of_ble_eq_true rfl) (by show (rc + 14) = 0 + (rc + 14); omega) (by show (rs + 2988) = 0 + (rs + 2988); omega) ?_
      rintro _ w23 ⟨rfl, hM2⟩
      refine J_st (.int 0 :: []) rfl ?_
      refine J_ws ((wOu Z ou f9 ++ w11) ++ w23) (by simp only [List.append_nil]) ?_
      refine J_iload C iL_law_1883 rfl ?_
      refine J_icmpeq 1890 C iL_law_1885 rfl (fun h1885 => ?_) (fun h1885 => absurd hc.symm h1885)
      refine J_iload C iL_law_1890 rfl ?_
      refine J_ifne 1907 C iL_law_1892 rfl (fun h1892 => absurd hc h1892) (fun h1892 => ?_)
      refine J_aload_n C iL_law_1895 rfl rfl ?_
      refine J_iconst 0 C iL_law_1896 rfl ?_
      refine J_lald 0 C iL_law_1897 rfl (vp_in_nI (n := 0) (by omega) (by decide)) ?_
      rw [show Int32.toNatClampNeg 0 = 0 from rfl]
      refine J_iload C iL_law_1898 rfl ?_
      refine J_i2l C iL_law_1900 ?_
      refine J_lcmp C iL_law_1901 ?_
      refine J_ifeqL 1907 C iL_law_1902 rfl (fun h1902 => ?_) (fun h1902 => absurd hv h1902)
      refine J_goto 2021 C iL_law_1907 rfl ?_
      refine J_lvm [(4, .int (nI i)), (0, .ref b), (1, .ref (x 0)), (2, .ref (mo 0)), (3, .ref (ou 0))] rfl ?_
      refine J_less rc rs (by omega) (by omega) ?_
      exact next _ ⟨f9, w11, w23, _, _, _, _, _, _, _, _, _, _, _, _, _, _, _, _, _, _, _, _, _, rfl, hC1, hM2⟩
    · exact absurd hc hc2
  · refine J_st (.int ((if ¬ hasB (nI N) (xs (i + 1)) = true then 1 else (if ((xs (i + 2)) < 1 ∨ 13 < (xs (i + 2))) then 2 else 0)) : Int32) :: []) rfl ?_
    refine J_ws ((wOu Z ou f9 ++ w11) ++ w2) rfl ?_
    refine J_istore [(5, .int ((if ¬ hasB (nI N) (xs (i + 1)) = true then 1 else (if ((xs (i + 2)) < 1 ∨ 13 < (xs (i + 2))) then 2 else 0)) : Int32)), (4, .int (nI i)), (0, .ref b), (1, .ref (x 0)), (2, .ref (mo 0)), (3, .ref (ou 0))] C iL_law_1859 (by decide) rfl ?_
    refine J_aload_n C iL_law_1861 rfl rfl ?_
    refine J_aload_n C iL_law_1862 rfl rfl ?_
    refine J_iload C iL_law_1863 rfl ?_
    refine J_iconst 1 C iL_law_1865 rfl ?_
    refine J_iadd C iL_law_1866 ?_
    rw [show (nI i) + 1 = nI (i + 1) from nI_add _ _]
    refine J_sld C S iL_law_1867 (vp_in_nI (n := (i + 1)) (by omega) (by omega)) ?_
    rw [nI_clamp (n := (i + 1)) (by omega)]
    refine J_aload_n C iL_law_1868 rfl rfl ?_
    refine J_iload C iL_law_1869 rfl ?_
    refine J_iconst 2 C iL_law_1871 rfl ?_
    refine J_iadd C iL_law_1872 ?_
    rw [show (nI i) + 2 = nI (i + 2) from nI_add _ _]
    refine J_sld C S iL_law_1873 (vp_in_nI (n := (i + 2)) (by omega) (by omega)) ?_
    rw [nI_clamp (n := (i + 2)) (by omega)]
    obtain ⟨fs2, hq2⟩ := hM.head
    refine J_cVb (ci := 9) (As := [.int (xs (i + 1)), .int (xs (i + 2))]) (st := []) (rc2 := (rc + 14)) (rs2 := (rs + 2988)) (w0 := w2) C iL_law_1874 lm_L_225 yc_X10_fairCurfew yv_X10_fairCurfew (n_X10_fairCurfew hM) rfl rfl hq2 (wOu Z ou f9 ++ w11) [] (by simp only [List.append_nil]) rfl ⟨Nat.le_of_ble_eq_true rfl, Nat.le_of_ble_eq_true rfl⟩ (Nat.le_of_ble_eq_true rfl) (by show (rc + 14) = 0 + (rc + 14); omega) (by show (rs + 2988) = 0 + (rs + 2988); omega) ?_
    rintro _ w22 (⟨hc2, rfl, hM1⟩ | ⟨z9, hc2, rfl, hM1⟩)
    · exact absurd hc2 hc
    · refine J_st (.int z9 :: []) rfl ?_
      refine J_ws ((wOu Z ou f9 ++ w11) ++ w22) (by simp only [List.append_nil]) ?_
      refine J_istore [(6, .int z9), (5, .int ((if ¬ hasB (nI N) (xs (i + 1)) = true then 1 else (if ((xs (i + 2)) < 1 ∨ 13 < (xs (i + 2))) then 2 else 0)) : Int32)), (4, .int (nI i)), (0, .ref b), (1, .ref (x 0)), (2, .ref (mo 0)), (3, .ref (ou 0))] C iL_law_1877 (by decide) rfl ?_
      refine J_aload_n C iL_law_1879 rfl rfl ?_
      obtain ⟨fs3, hq3⟩ := hM1.head
      refine J_cVb (ci := 9) (As := []) (st := []) (rc2 := (rc + 14)) (rs2 := (rs + 2988)) (w0 := w22) C iL_law_1880 lm_L_111 yc_X10_thrown yv_X10_thrown (n_X10_thrown hM1) rfl rfl hq3 (wOu Z ou f9 ++ w11) [] (by simp only [List.append_nil]) rfl ⟨Nat.le_of_ble_eq_true rfl, Nat.le_of_ble_eq_true rfl⟩ (Nat.le_of_ble_eq_true rfl) (by show (rc + 14) = 0 + (rc + 14); omega) (by show (rs + 2988) = 0 + (rs + 2988); omega) ?_
      rintro _ w23 ⟨rfl, hM2⟩
      refine J_st (.int ((if ¬ hasB (nI N) (xs (i + 1)) = true then 1 else (if ((xs (i + 2)) < 1 ∨ 13 < (xs (i + 2))) then 2 else 0)) : Int32) :: []) rfl ?_
      refine J_ws ((wOu Z ou f9 ++ w11) ++ w23) (by simp only [List.append_nil]) ?_
      refine J_iload C iL_law_1883 rfl ?_
      refine J_icmpeq 1890 C iL_law_1885 rfl (fun h1885 => ?_) (fun h1885 => absurd rfl h1885)
      refine J_iload C iL_law_1890 rfl ?_
      refine J_ifne 1907 C iL_law_1892 rfl (fun h1892 => ?_) (fun h1892 => absurd h1892 hc)
      refine J_goto 2021 C iL_law_1907 rfl ?_
      refine J_lvm [(4, .int (nI i)), (0, .ref b), (1, .ref (x 0)), (2, .ref (mo 0)), (3, .ref (ou 0))] rfl ?_
      refine J_less rc rs (by omega) (by omega) ?_
      exact next _ ⟨f9, w11, w23, _, _, _, _, _, _, _, _, _, _, _, _, _, _, _, _, _, _, _, _, _, rfl, hC1, hM2⟩

set_option maxRecDepth 100000 in
set_option maxHeartbeats 4000000 in
/-- case 34: fairestWall -/
theorem law_34 {Z : GZ} {X : CX} {Q : State → Prop} {rc rs : Nat} (C : Cx Z X cL_law 9 RL) (hV : VN (cS X)) (hl : (cL X).stackTraces = false) {b L i : Nat} {xs : Nat → Int32} (S : Sc X b L xs) (hL : L ≤ 3072) (hi : i + 6 ≤ L) {x mo ou : Nat → Nat} {f : Nat → Int64} {w1 w2 : va_W} {th : Int32} {N u tm : Nat} {er dg co : Int32} {pP pH pF pT op f1 f2 l0 tb : Nat → Int32} {hh c0 c1 c2 c3 : Nat → Nat} (hC : CI Z x N u tm er dg co pP pH pF pT op f1 f2 l0 hh c0 c1 c2 c3 tb w1) (hM : MI Z mo th N u tm er dg co pP pH pF pT op f1 f2 l0 hh c0 c1 c2 c3 tb w2) (next : ∀ w9, LI Z x mo ou w9 → Jd Z X room_1 9 Q rc rs 2021 [(4, .int (nI i)), (0, .ref b), (1, .ref (x 0)), (2, .ref (mo 0)), (3, .ref (ou 0))] [] w9) : Jd Z X room_1 9 Q (rc + 16) (rs + 3000) 1910 [(4, .int (nI i)), (0, .ref b), (1, .ref (x 0)), (2, .ref (mo 0)), (3, .ref (ou 0))] [] ((wOu Z ou f ++ w1) ++ w2) := by
  refine J_aload_n C iL_law_1910 rfl rfl ?_
  refine J_aload_n C iL_law_1911 rfl rfl ?_
  refine J_iload C iL_law_1912 rfl ?_
  refine J_iconst 1 C iL_law_1914 rfl ?_
  refine J_iadd C iL_law_1915 ?_
  rw [show (nI i) + 1 = nI (i + 1) from nI_add _ _]
  refine J_sld C S iL_law_1916 (vp_in_nI (n := (i + 1)) (by omega) (by omega)) ?_
  rw [nI_clamp (n := (i + 1)) (by omega)]
  refine J_aload_n C iL_law_1917 rfl rfl ?_
  refine J_cSL (As := [.ref (x 0), .int (xs (i + 1)), .ref (ou 0)]) (st := []) (rc2 := (rc + 15)) (rs2 := (rs + 2994)) (w0 := wOu Z ou f ++ w1) C hV iL_law_1918 lm_L_226 ycw_L_fairestWall ys_L_fairestWall (k_fairestWall hl hC) [] w2 rfl rfl ⟨Nat.le_of_ble_eq_true rfl, Nat.le_of_ble_eq_true rfl⟩ (Nat.le_of_ble_eq_true rfl) (by show (rc + 16) = 1 + (rc + 15); omega) (by show (rs + 3000) = 6 + (rs + 2994); omega) ?_
  rintro _ w10 ⟨rfl, f9, w11, rfl, ⟨hc, hv, hC1⟩ | ⟨hc, hC1⟩⟩
  · refine J_st (.int ((if ((xs (i + 1)) < 1 ∨ 13 < (xs (i + 1))) then 1 else 0) : Int32) :: []) rfl ?_
    refine J_ws ((wOu Z ou f9 ++ w11) ++ w2) rfl ?_
    refine J_istore [(5, .int ((if ((xs (i + 1)) < 1 ∨ 13 < (xs (i + 1))) then 1 else 0) : Int32)), (4, .int (nI i)), (0, .ref b), (1, .ref (x 0)), (2, .ref (mo 0)), (3, .ref (ou 0))] C iL_law_1921 (by decide) rfl ?_
    refine J_aload_n C iL_law_1923 rfl rfl ?_
    refine J_aload_n C iL_law_1924 rfl rfl ?_
    refine J_iload C iL_law_1925 rfl ?_
    refine J_iconst 1 C iL_law_1927 rfl ?_
    refine J_iadd C iL_law_1928 ?_
    rw [show (nI i) + 1 = nI (i + 1) from nI_add _ _]
    refine J_sld C S iL_law_1929 (vp_in_nI (n := (i + 1)) (by omega) (by omega)) ?_
    rw [nI_clamp (n := (i + 1)) (by omega)]
    obtain ⟨fs2, hq2⟩ := hM.head
    refine J_cVb (ci := 9) (As := [.int (xs (i + 1))]) (st := []) (rc2 := (rc + 15)) (rs2 := (rs + 2994)) (w0 := w2) C iL_law_1930 lm_L_228 yc_X10_fairestWall yv_X10_fairestWall (n_X10_fairestWall hM) rfl rfl hq2 (wOu Z ou f9 ++ w11) [] (by simp only [List.append_nil]) rfl ⟨Nat.le_of_ble_eq_true rfl, Nat.le_of_ble_eq_true rfl⟩ (Nat.le_of_ble_eq_true rfl) (by show (rc + 15) = 0 + (rc + 15); omega) (by show (rs + 2994) = 0 + (rs + 2994); omega) ?_
    rintro _ w22 (⟨hc2, rfl, hM1⟩ | ⟨z9, hc2, rfl, hM1⟩)
    · refine J_st (.int ((owX (fcV N pP pH pF pT (xs (i + 1)).toNatClampNeg) (14 - (xs (i + 1)).toNatClampNeg) (-1, laG N pP pH pF pT) N).1) :: []) rfl ?_
      refine J_ws ((wOu Z ou f9 ++ w11) ++ w22) (by simp only [List.append_nil]) ?_
      refine J_istore [(6, .int ((owX (fcV N pP pH pF pT (xs (i + 1)).toNatClampNeg) (14 - (xs (i + 1)).toNatClampNeg) (-1, laG N pP pH pF pT) N).1)), (5, .int ((if ((xs (i + 1)) < 1 ∨ 13 < (xs (i + 1))) then 1 else 0) : Int32)), (4, .int (nI i)), (0, .ref b), (1, .ref (x 0)), (2, .ref (mo 0)), (3, .ref (ou 0))] C iL_law_1933 (by decide) rfl ?_
      refine J_aload_n C iL_law_1935 rfl rfl ?_
      obtain ⟨fs3, hq3⟩ := hM1.head
      refine J_cVb (ci := 9) (As := []) (st := []) (rc2 := (rc + 15)) (rs2 := (rs + 2994)) (w0 := w22) C iL_law_1936 lm_L_111 yc_X10_thrown yv_X10_thrown (n_X10_thrown hM1) rfl rfl hq3 (wOu Z ou f9 ++ w11) [] (by simp only [List.append_nil]) rfl ⟨Nat.le_of_ble_eq_true rfl, Nat.le_of_ble_eq_true rfl⟩ (Nat.le_of_ble_eq_true rfl) (by show (rc + 15) = 0 + (rc + 15); omega) (by show (rs + 2994) = 0 + (rs + 2994); omega) ?_
      rintro _ w23 ⟨rfl, hM2⟩
      refine J_st (.int 0 :: []) rfl ?_
      refine J_ws ((wOu Z ou f9 ++ w11) ++ w23) (by simp only [List.append_nil]) ?_
      refine J_iload C iL_law_1939 rfl ?_
      refine J_icmpeq 1946 C iL_law_1941 rfl (fun h1941 => ?_) (fun h1941 => absurd hc.symm h1941)
      refine J_iload C iL_law_1946 rfl ?_
      refine J_ifne 1963 C iL_law_1948 rfl (fun h1948 => absurd hc h1948) (fun h1948 => ?_)
      refine J_aload_n C iL_law_1951 rfl rfl ?_
      refine J_iconst 0 C iL_law_1952 rfl ?_
      refine J_lald 0 C iL_law_1953 rfl (vp_in_nI (n := 0) (by omega) (by decide)) ?_
      rw [show Int32.toNatClampNeg 0 = 0 from rfl]
      refine J_iload C iL_law_1954 rfl ?_
      refine J_i2l C iL_law_1956 ?_
      refine J_lcmp C iL_law_1957 ?_
      refine J_ifeqL 1963 C iL_law_1958 rfl (fun h1958 => ?_) (fun h1958 => absurd hv h1958)
      refine J_goto 2021 C iL_law_1963 rfl ?_
      refine J_lvm [(4, .int (nI i)), (0, .ref b), (1, .ref (x 0)), (2, .ref (mo 0)), (3, .ref (ou 0))] rfl ?_
      refine J_less rc rs (by omega) (by omega) ?_
      exact next _ ⟨f9, w11, w23, _, _, _, _, _, _, _, _, _, _, _, _, _, _, _, _, _, _, _, _, _, rfl, hC1, hM2⟩
    · exact absurd hc hc2
  · refine J_st (.int ((if ((xs (i + 1)) < 1 ∨ 13 < (xs (i + 1))) then 1 else 0) : Int32) :: []) rfl ?_
    refine J_ws ((wOu Z ou f9 ++ w11) ++ w2) rfl ?_
    refine J_istore [(5, .int ((if ((xs (i + 1)) < 1 ∨ 13 < (xs (i + 1))) then 1 else 0) : Int32)), (4, .int (nI i)), (0, .ref b), (1, .ref (x 0)), (2, .ref (mo 0)), (3, .ref (ou 0))] C iL_law_1921 (by decide) rfl ?_
    refine J_aload_n C iL_law_1923 rfl rfl ?_
    refine J_aload_n C iL_law_1924 rfl rfl ?_
    refine J_iload C iL_law_1925 rfl ?_
    refine J_iconst 1 C iL_law_1927 rfl ?_
    refine J_iadd C iL_law_1928 ?_
    rw [show (nI i) + 1 = nI (i + 1) from nI_add _ _]
    refine J_sld C S iL_law_1929 (vp_in_nI (n := (i + 1)) (by omega) (by omega)) ?_
    rw [nI_clamp (n := (i + 1)) (by omega)]
    obtain ⟨fs2, hq2⟩ := hM.head
    refine J_cVb (ci := 9) (As := [.int (xs (i + 1))]) (st := []) (rc2 := (rc + 15)) (rs2 := (rs + 2994)) (w0 := w2) C iL_law_1930 lm_L_228 yc_X10_fairestWall yv_X10_fairestWall (n_X10_fairestWall hM) rfl rfl hq2 (wOu Z ou f9 ++ w11) [] (by simp only [List.append_nil]) rfl ⟨Nat.le_of_ble_eq_true rfl, Nat.le_of_ble_eq_true rfl⟩ (Nat.le_of_ble_eq_true rfl) (by show (rc + 15) = 0 + (rc + 15); omega) (by show (rs + 2994) = 0 + (rs + 2994); omega) ?_
    rintro _ w22 (⟨hc2, rfl, hM1⟩ | ⟨z9, hc2, rfl, hM1⟩)
    · exact absurd hc2 hc
    · refine J_st (.int z9 :: []) rfl ?_
      refine J_ws ((wOu Z ou f9 ++ w11) ++ w22) (by simp only [List.append_nil]) ?_
      refine J_istore [(6, .int z9), (5, .int ((if ((xs (i + 1)) < 1 ∨ 13 < (xs (i + 1))) then 1 else 0) : Int32)), (4, .int (nI i)), (0, .ref b), (1, .ref (x 0)), (2, .ref (mo 0)), (3, .ref (ou 0))] C iL_law_1933 (by decide) rfl ?_
      refine J_aload_n C iL_law_1935 rfl rfl ?_
      obtain ⟨fs3, hq3⟩ := hM1.head
      refine J_cVb (ci := 9) (As := []) (st := []) (rc2 := (rc + 15)) (rs2 := (rs + 2994)) (w0 := w22) C iL_law_1936 lm_L_111 yc_X10_thrown yv_X10_thrown (n_X10_thrown hM1) rfl rfl hq3 (wOu Z ou f9 ++ w11) [] (by simp only [List.append_nil]) rfl ⟨Nat.le_of_ble_eq_true rfl, Nat.le_of_ble_eq_true rfl⟩ (Nat.le_of_ble_eq_true rfl) (by show (rc + 15) = 0 + (rc + 15); omega) (by show (rs + 2994) = 0 + (rs + 2994); omega) ?_
      rintro _ w23 ⟨rfl, hM2⟩
      refine J_st (.int ((if ((xs (i + 1)) < 1 ∨ 13 < (xs (i + 1))) then 1 else 0) : Int32) :: []) rfl ?_
      refine J_ws ((wOu Z ou f9 ++ w11) ++ w23) (by simp only [List.append_nil]) ?_
      refine J_iload C iL_law_1939 rfl ?_
      refine J_icmpeq 1946 C iL_law_1941 rfl (fun h1941 => ?_) (fun h1941 => absurd rfl h1941)
      refine J_iload C iL_law_1946 rfl ?_
      refine J_ifne 1963 C iL_law_1948 rfl (fun h1948 => ?_) (fun h1948 => absurd h1948 hc)
      refine J_goto 2021 C iL_law_1963 rfl ?_
      refine J_lvm [(4, .int (nI i)), (0, .ref b), (1, .ref (x 0)), (2, .ref (mo 0)), (3, .ref (ou 0))] rfl ?_
      refine J_less rc rs (by omega) (by omega) ?_
      exact next _ ⟨f9, w11, w23, _, _, _, _, _, _, _, _, _, _, _, _, _, _, _, _, _, _, _, _, _, rfl, hC1, hM2⟩

