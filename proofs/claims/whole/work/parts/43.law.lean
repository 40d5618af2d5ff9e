/-! ===== the law's walk ===== -/
abbrev qT : Option aV → aH → Prop := fun r _ => r = some (vI 1)
/-- both objects tell one state, behind n calls -/
def LwI (x m n : Nat) (h : aH) : Prop := ∃ ac ar rr cr ta tm mk md on ot lo hi b1 b2 b3 b4 b5 b6 b7 b8 b9 : Nat, ∃ S : aS, CRel x ac ar rr cr ta tm mk md on ot lo hi S h ∧ MRel m b1 b2 b3 b4 b5 b6 b7 b8 b9 lo hi S h ∧ SOk n S
theorem LwI.mono {x m n : Nat} {h : aH} (k : LwI x m n h) : LwI x m (n + 1) h := by
  obtain ⟨ac, ar, rr, cr, ta, tm, mk, md, on, ot, lo, hi, b1, b2, b3, b4, b5, b6, b7, b8, b9, S, hC, hM, hS⟩ := k
  exact ⟨ac, ar, rr, cr, ta, tm, mk, md, on, ot, lo, hi, b1, b2, b3, b4, b5, b6, b7, b8, b9, S, hC, hM, hS.mono⟩
set_option maxHeartbeats 4000000 in
theorem lc_put {Z : aZ} {G : aG} {x m n : Nat} {i : Int} {kc ks : Nat} {h : aH} (hI : LwI x m n h) (h0 : 0 ≤ i) (h4 : i + 4 ≤ Z.2.1) (hN : Z.2.1 ≤ 2048) (hn : n ≤ 1000) (hc : kc + 2 ≤ 1045) (hs : ks + 265 ≤ 157302) (k : ∀ h' : aH, LwI x m (n + 1) h' → EL Z G mL_law 10 1045 157302 qT 1022 [(0, vA Z.1), (1, vA x), (2, vA m), (3, vI i)] [] h' (kc + 2) (ks + 265)) : EL Z G mL_law 10 1045 157302 qT 168 [(0, vA Z.1), (1, vA x), (2, vA m), (3, vI i)] [] h kc ks := by
  obtain ⟨ac, ar, rr, cr, ta, tm, mk, md, on, ot, lo, hi, b1, b2, b3, b4, b5, b6, b7, b8, b9, S, hC, hM, hS⟩ := hI
  refine l_aload_n 1 dL_law_168 rfl rfl ?_
  refine l_aload_n 0 dL_law_169 rfl rfl ?_
  refine l_iload_n 3 dL_law_170 rfl rfl ?_
  refine l_iconst dL_law_171 (okI_c rfl) ?_
  refine l_iadd dL_law_172 (by unfold okI; omega) ?_
  refine l_sld dL_law_173 (by omega) (by omega) ?_
  refine l_i2l dL_law_174 ?_
  refine l_bipush dL_law_175 (okI_c rfl) (by decide +kernel) ?_
  refine l_jshl dL_law_177 ?_
  refine l_aload_n 0 dL_law_178 rfl rfl ?_
  refine l_iload_n 3 dL_law_179 rfl rfl ?_
  refine l_iconst dL_law_180 (okI_c rfl) ?_
  refine l_iadd dL_law_181 (by unfold okI; omega) ?_
  refine l_sld dL_law_182 (by omega) (by omega) ?_
  refine l_i2l dL_law_183 ?_
  refine l_ldc2 (n := 4294967295) dL_law_184 (okJ_c rfl) kc_L_13 ?_
  refine l_jand dL_law_187 ?_
  refine l_jor dL_law_188 ?_
  refine l_callV [vJ (jOr (jShl (sx Z (i + 1)) 32) (jAnd (sx Z (i + 2)) 4294967295))] dL_law_189 kv_L_15 rfl rfl hC.2.1 (by omega) (Nat.le_of_ble_eq_true rfl) (by omega) (by omega) (k_X9_put (d := 9) (by omega) hC hS) (fun r1 h1 q1 => ?_)
  obtain ⟨rfl, hC1, hF1⟩ := q1
  have hM1 := hM.fr hF1
  show EL Z G mL_law 10 1045 157302 qT _ [(0, vA Z.1), (1, vA x), (2, vA m), (3, vI i)] [vI ((oPut (jOr (jShl (sx Z (i + 1)) 32) (jAnd (sx Z (i + 2)) 4294967295)) S).1)] _ _ _
  refine l_aload_n 2 dL_law_192 rfl rfl ?_
  refine l_aload_n 0 dL_law_193 rfl rfl ?_
  refine l_iload_n 3 dL_law_194 rfl rfl ?_
  refine l_iconst dL_law_195 (okI_c rfl) ?_
  refine l_iadd dL_law_196 (by unfold okI; omega) ?_
  refine l_sld dL_law_197 (by omega) (by omega) ?_
  refine l_i2l dL_law_198 ?_
  refine l_bipush dL_law_199 (okI_c rfl) (by decide +kernel) ?_
  refine l_jshl dL_law_201 ?_
  refine l_aload_n 0 dL_law_202 rfl rfl ?_
  refine l_iload_n 3 dL_law_203 rfl rfl ?_
  refine l_iconst dL_law_204 (okI_c rfl) ?_
  refine l_iadd dL_law_205 (by unfold okI; omega) ?_
  refine l_sld dL_law_206 (by omega) (by omega) ?_
  refine l_i2l dL_law_207 ?_
  refine l_ldc2 (n := 4294967295) dL_law_208 (okJ_c rfl) kc_L_13 ?_
  refine l_jand dL_law_211 ?_
  refine l_jor dL_law_212 ?_
  refine l_callV [vJ (jOr (jShl (sx Z (i + 1)) 32) (jAnd (sx Z (i + 2)) 4294967295))] dL_law_213 kv_L_19 rfl rfl hM1.2.1 (by omega) (Nat.le_of_ble_eq_true rfl) (by omega) (by omega) (k_X10_put (d := 9) (by omega) hM1 hS) (fun r2 h2 q2 => ?_)
  obtain ⟨rfl, hM2, hF2⟩ := q2
  have hC2 := hC1.fr hF2
  show EL Z G mL_law 10 1045 157302 qT _ [(0, vA Z.1), (1, vA x), (2, vA m), (3, vI i)] [vI ((oPut (jOr (jShl (sx Z (i + 1)) 32) (jAnd (sx Z (i + 2)) 4294967295)) S).1), vI ((oPut (jOr (jShl (sx Z (i + 1)) 32) (jAnd (sx Z (i + 2)) 4294967295)) S).1)] _ _ _
  refine l_icmp_eq 1022 dL_law_216 (by decide) (fun _ => ?_) (fun c => absurd rfl c)
  exact EL.wide (by omega) (by omega) (k _ ⟨_, _, _, _, _, _, _, _, _, _, _, _, _, _, _, _, _, _, _, _, _, _, hC2, hM2, (sok_put hS _).mono⟩)
set_option maxHeartbeats 4000000 in
theorem lc_draw {Z : aZ} {G : aG} {x m n : Nat} {i : Int} {kc ks : Nat} {h : aH} (hI : LwI x m n h) (h0 : 0 ≤ i) (h4 : i + 4 ≤ Z.2.1) (hN : Z.2.1 ≤ 2048) (hn : n ≤ 1000) (hc : kc + 2 ≤ 1045) (hs : ks + 265 ≤ 157302) (k : ∀ h' : aH, LwI x m (n + 1) h' → EL Z G mL_law 10 1045 157302 qT 1022 [(0, vA Z.1), (1, vA x), (2, vA m), (3, vI i)] [] h' (kc + 2) (ks + 265)) : EL Z G mL_law 10 1045 157302 qT 221 [(0, vA Z.1), (1, vA x), (2, vA m), (3, vI i)] [] h kc ks := by
  obtain ⟨ac, ar, rr, cr, ta, tm, mk, md, on, ot, lo, hi, b1, b2, b3, b4, b5, b6, b7, b8, b9, S, hC, hM, hS⟩ := hI
  refine l_aload_n 1 dL_law_221 rfl rfl ?_
  refine l_aload_n 0 dL_law_222 rfl rfl ?_
  refine l_iload_n 3 dL_law_223 rfl rfl ?_
  refine l_iconst dL_law_224 (okI_c rfl) ?_
  refine l_iadd dL_law_225 (by unfold okI; omega) ?_
  refine l_sld dL_law_226 (by omega) (by omega) ?_
  refine l_aload_n 0 dL_law_227 rfl rfl ?_
  refine l_iload_n 3 dL_law_228 rfl rfl ?_
  refine l_iconst dL_law_229 (okI_c rfl) ?_
  refine l_iadd dL_law_230 (by unfold okI; omega) ?_
  refine l_sld dL_law_231 (by omega) (by omega) ?_
  refine l_aload_n 0 dL_law_232 rfl rfl ?_
  refine l_iload_n 3 dL_law_233 rfl rfl ?_
  refine l_iconst dL_law_234 (okI_c rfl) ?_
  refine l_iadd dL_law_235 (by unfold okI; omega) ?_
  refine l_sld dL_law_236 (by omega) (by omega) ?_
  refine l_callV [vI (sx Z (i + 1)), vI (sx Z (i + 2)), vI (sx Z (i + 3))] dL_law_237 kv_L_20 rfl rfl hC.2.1 (by omega) (Nat.le_of_ble_eq_true rfl) (by omega) (by omega) (k_X9_draw (d := 9) (by omega) hC hS) (fun r1 h1 q1 => ?_)
  obtain ⟨rfl, hC1, hF1⟩ := q1
  have hM1 := hM.fr hF1
  show EL Z G mL_law 10 1045 157302 qT _ [(0, vA Z.1), (1, vA x), (2, vA m), (3, vI i)] [vI ((oDraw (sx Z (i + 1)) (sx Z (i + 2)) (sx Z (i + 3)) S).1)] _ _ _
  refine l_aload_n 2 dL_law_240 rfl rfl ?_
  refine l_aload_n 0 dL_law_241 rfl rfl ?_
  refine l_iload_n 3 dL_law_242 rfl rfl ?_
  refine l_iconst dL_law_243 (okI_c rfl) ?_
  refine l_iadd dL_law_244 (by unfold okI; omega) ?_
  refine l_sld dL_law_245 (by omega) (by omega) ?_
  refine l_aload_n 0 dL_law_246 rfl rfl ?_
  refine l_iload_n 3 dL_law_247 rfl rfl ?_
  refine l_iconst dL_law_248 (okI_c rfl) ?_
  refine l_iadd dL_law_249 (by unfold okI; omega) ?_
  refine l_sld dL_law_250 (by omega) (by omega) ?_
  refine l_aload_n 0 dL_law_251 rfl rfl ?_
  refine l_iload_n 3 dL_law_252 rfl rfl ?_
  refine l_iconst dL_law_253 (okI_c rfl) ?_
  refine l_iadd dL_law_254 (by unfold okI; omega) ?_
  refine l_sld dL_law_255 (by omega) (by omega) ?_
  refine l_callV [vI (sx Z (i + 1)), vI (sx Z (i + 2)), vI (sx Z (i + 3))] dL_law_256 kv_L_24 rfl rfl hM1.2.1 (by omega) (Nat.le_of_ble_eq_true rfl) (by omega) (by omega) (k_X10_draw (d := 9) (by omega) hM1 hS) (fun r2 h2 q2 => ?_)
  obtain ⟨rfl, hM2, hF2⟩ := q2
  have hC2 := hC1.fr hF2
  show EL Z G mL_law 10 1045 157302 qT _ [(0, vA Z.1), (1, vA x), (2, vA m), (3, vI i)] [vI ((oDraw (sx Z (i + 1)) (sx Z (i + 2)) (sx Z (i + 3)) S).1), vI ((oDraw (sx Z (i + 1)) (sx Z (i + 2)) (sx Z (i + 3)) S).1)] _ _ _
  refine l_icmp_eq 1022 dL_law_259 (by decide) (fun _ => ?_) (fun c => absurd rfl c)
  exact EL.wide (by omega) (by omega) (k _ ⟨_, _, _, _, _, _, _, _, _, _, _, _, _, _, _, _, _, _, _, _, _, _, hC2, hM2, (sok_draw hS _ _ _).mono⟩)
set_option maxHeartbeats 4000000 in
theorem lc_drop {Z : aZ} {G : aG} {x m n : Nat} {i : Int} {kc ks : Nat} {h : aH} (hI : LwI x m n h) (h0 : 0 ≤ i) (h4 : i + 4 ≤ Z.2.1) (hN : Z.2.1 ≤ 2048) (hn : n ≤ 1000) (hc : kc + 2 ≤ 1045) (hs : ks + 265 ≤ 157302) (k : ∀ h' : aH, LwI x m (n + 1) h' → EL Z G mL_law 10 1045 157302 qT 1022 [(0, vA Z.1), (1, vA x), (2, vA m), (3, vI i)] [] h' (kc + 2) (ks + 265)) : EL Z G mL_law 10 1045 157302 qT 264 [(0, vA Z.1), (1, vA x), (2, vA m), (3, vI i)] [] h kc ks := by
  obtain ⟨ac, ar, rr, cr, ta, tm, mk, md, on, ot, lo, hi, b1, b2, b3, b4, b5, b6, b7, b8, b9, S, hC, hM, hS⟩ := hI
  refine l_aload_n 1 dL_law_264 rfl rfl ?_
  refine l_callV [] dL_law_265 kv_L_25 rfl rfl hC.2.1 (by omega) (Nat.le_of_ble_eq_true rfl) (by omega) (by omega) (k_X9_drop (d := 9) (by omega) hC hS) (fun r1 h1 q1 => ?_)
  obtain ⟨rfl, hC1, hF1⟩ := q1
  have hM1 := hM.fr hF1
  show EL Z G mL_law 10 1045 157302 qT _ [(0, vA Z.1), (1, vA x), (2, vA m), (3, vI i)] [vI ((oDrop S).1)] _ _ _
  refine l_aload_n 2 dL_law_268 rfl rfl ?_
  refine l_callV [] dL_law_269 kv_L_29 rfl rfl hM1.2.1 (by omega) (Nat.le_of_ble_eq_true rfl) (by omega) (by omega) (k_X10_drop (d := 9) (by omega) hM1 hS) (fun r2 h2 q2 => ?_)
  obtain ⟨rfl, hM2, hF2⟩ := q2
  have hC2 := hC1.fr hF2
  show EL Z G mL_law 10 1045 157302 qT _ [(0, vA Z.1), (1, vA x), (2, vA m), (3, vI i)] [vI ((oDrop S).1), vI ((oDrop S).1)] _ _ _
  refine l_icmp_eq 1022 dL_law_272 (by decide) (fun _ => ?_) (fun c => absurd rfl c)
  exact EL.wide (by omega) (by omega) (k _ ⟨_, _, _, _, _, _, _, _, _, _, _, _, _, _, _, _, _, _, _, _, _, _, hC2, hM2, (sok_drop hS).mono⟩)
set_option maxHeartbeats 4000000 in
theorem lc_curve {Z : aZ} {G : aG} {x m n : Nat} {i : Int} {kc ks : Nat} {h : aH} (hI : LwI x m n h) (h0 : 0 ≤ i) (h4 : i + 4 ≤ Z.2.1) (hN : Z.2.1 ≤ 2048) (hn : n ≤ 1000) (hc : kc + 2 ≤ 1045) (hs : ks + 265 ≤ 157302) (k : ∀ h' : aH, LwI x m (n + 1) h' → EL Z G mL_law 10 1045 157302 qT 1022 [(0, vA Z.1), (1, vA x), (2, vA m), (3, vI i)] [] h' (kc + 2) (ks + 265)) : EL Z G mL_law 10 1045 157302 qT 277 [(0, vA Z.1), (1, vA x), (2, vA m), (3, vI i)] [] h kc ks := by
  obtain ⟨ac, ar, rr, cr, ta, tm, mk, md, on, ot, lo, hi, b1, b2, b3, b4, b5, b6, b7, b8, b9, S, hC, hM, hS⟩ := hI
  refine l_aload_n 1 dL_law_277 rfl rfl ?_
  refine l_aload_n 0 dL_law_278 rfl rfl ?_
  refine l_iload_n 3 dL_law_279 rfl rfl ?_
  refine l_iconst dL_law_280 (okI_c rfl) ?_
  refine l_iadd dL_law_281 (by unfold okI; omega) ?_
  refine l_sld dL_law_282 (by omega) (by omega) ?_
  refine l_aload_n 0 dL_law_283 rfl rfl ?_
  refine l_iload_n 3 dL_law_284 rfl rfl ?_
  refine l_iconst dL_law_285 (okI_c rfl) ?_
  refine l_iadd dL_law_286 (by unfold okI; omega) ?_
  refine l_sld dL_law_287 (by omega) (by omega) ?_
  refine l_callV [vI (sx Z (i + 1)), vI (sx Z (i + 2))] dL_law_288 kv_L_30 rfl rfl hC.2.1 (by omega) (Nat.le_of_ble_eq_true rfl) (by omega) (by omega) (k_X9_curve (d := 9) (by omega) hC hS) (fun r1 h1 q1 => ?_)
  obtain ⟨rfl, hC1, hF1⟩ := q1
  have hM1 := hM.fr hF1
  show EL Z G mL_law 10 1045 157302 qT _ [(0, vA Z.1), (1, vA x), (2, vA m), (3, vI i)] [vI ((oCurve (sx Z (i + 1)) (sx Z (i + 2)) S).1)] _ _ _
  refine l_aload_n 2 dL_law_291 rfl rfl ?_
  refine l_aload_n 0 dL_law_292 rfl rfl ?_
  refine l_iload_n 3 dL_law_293 rfl rfl ?_
  refine l_iconst dL_law_294 (okI_c rfl) ?_
  refine l_iadd dL_law_295 (by unfold okI; omega) ?_
  refine l_sld dL_law_296 (by omega) (by omega) ?_
  refine l_aload_n 0 dL_law_297 rfl rfl ?_
  refine l_iload_n 3 dL_law_298 rfl rfl ?_
  refine l_iconst dL_law_299 (okI_c rfl) ?_
  refine l_iadd dL_law_300 (by unfold okI; omega) ?_
  refine l_sld dL_law_301 (by omega) (by omega) ?_
  refine l_callV [vI (sx Z (i + 1)), vI (sx Z (i + 2))] dL_law_302 kv_L_34 rfl rfl hM1.2.1 (by omega) (Nat.le_of_ble_eq_true rfl) (by omega) (by omega) (k_X10_curve (d := 9) (by omega) hM1 hS) (fun r2 h2 q2 => ?_)
  obtain ⟨rfl, hM2, hF2⟩ := q2
  have hC2 := hC1.fr hF2
  show EL Z G mL_law 10 1045 157302 qT _ [(0, vA Z.1), (1, vA x), (2, vA m), (3, vI i)] [vI ((oCurve (sx Z (i + 1)) (sx Z (i + 2)) S).1), vI ((oCurve (sx Z (i + 1)) (sx Z (i + 2)) S).1)] _ _ _
  refine l_icmp_eq 1022 dL_law_305 (by decide) (fun _ => ?_) (fun c => absurd rfl c)
  exact EL.wide (by omega) (by omega) (k _ ⟨_, _, _, _, _, _, _, _, _, _, _, _, _, _, _, _, _, _, _, _, _, _, hC2, hM2, (sok_curve hS _ _).mono⟩)
set_option maxHeartbeats 4000000 in
theorem lc_ray {Z : aZ} {G : aG} {x m n : Nat} {i : Int} {kc ks : Nat} {h : aH} (hI : LwI x m n h) (h0 : 0 ≤ i) (h4 : i + 4 ≤ Z.2.1) (hN : Z.2.1 ≤ 2048) (hn : n ≤ 1000) (hc : kc + 2 ≤ 1045) (hs : ks + 265 ≤ 157302) (k : ∀ h' : aH, LwI x m (n + 1) h' → EL Z G mL_law 10 1045 157302 qT 1022 [(0, vA Z.1), (1, vA x), (2, vA m), (3, vI i)] [] h' (kc + 2) (ks + 265)) : EL Z G mL_law 10 1045 157302 qT 310 [(0, vA Z.1), (1, vA x), (2, vA m), (3, vI i)] [] h kc ks := by
  obtain ⟨ac, ar, rr, cr, ta, tm, mk, md, on, ot, lo, hi, b1, b2, b3, b4, b5, b6, b7, b8, b9, S, hC, hM, hS⟩ := hI
  refine l_aload_n 1 dL_law_310 rfl rfl ?_
  refine l_aload_n 0 dL_law_311 rfl rfl ?_
  refine l_iload_n 3 dL_law_312 rfl rfl ?_
  refine l_iconst dL_law_313 (okI_c rfl) ?_
  refine l_iadd dL_law_314 (by unfold okI; omega) ?_
  refine l_sld dL_law_315 (by omega) (by omega) ?_
  refine l_callV [vI (sx Z (i + 1))] dL_law_316 kv_L_35 rfl rfl hC.2.1 (by omega) (Nat.le_of_ble_eq_true rfl) (by omega) (by omega) (k_X9_ray (d := 9) (by omega) hC hS) (fun r1 h1 q1 => ?_)
  obtain ⟨rfl, hC1, hF1⟩ := q1
  have hM1 := hM.fr hF1
  show EL Z G mL_law 10 1045 157302 qT _ [(0, vA Z.1), (1, vA x), (2, vA m), (3, vI i)] [vI ((oRay (sx Z (i + 1)) S).1)] _ _ _
  refine l_aload_n 2 dL_law_319 rfl rfl ?_
  refine l_aload_n 0 dL_law_320 rfl rfl ?_
  refine l_iload_n 3 dL_law_321 rfl rfl ?_
  refine l_iconst dL_law_322 (okI_c rfl) ?_
  refine l_iadd dL_law_323 (by unfold okI; omega) ?_
  refine l_sld dL_law_324 (by omega) (by omega) ?_
  refine l_callV [vI (sx Z (i + 1))] dL_law_325 kv_L_39 rfl rfl hM1.2.1 (by omega) (Nat.le_of_ble_eq_true rfl) (by omega) (by omega) (k_X10_ray (d := 9) (by omega) hM1 hS) (fun r2 h2 q2 => ?_)
  obtain ⟨rfl, hM2, hF2⟩ := q2
  have hC2 := hC1.fr hF2
  show EL Z G mL_law 10 1045 157302 qT _ [(0, vA Z.1), (1, vA x), (2, vA m), (3, vI i)] [vI ((oRay (sx Z (i + 1)) S).1), vI ((oRay (sx Z (i + 1)) S).1)] _ _ _
  refine l_icmp_eq 1022 dL_law_328 (by decide) (fun _ => ?_) (fun c => absurd rfl c)
  exact EL.wide (by omega) (by omega) (k _ ⟨_, _, _, _, _, _, _, _, _, _, _, _, _, _, _, _, _, _, _, _, _, _, hC2, hM2, (sok_ray hS _).mono⟩)
set_option maxHeartbeats 4000000 in
theorem lc_of {Z : aZ} {G : aG} {x m n : Nat} {i : Int} {kc ks : Nat} {h : aH} (hI : LwI x m n h) (h0 : 0 ≤ i) (h4 : i + 4 ≤ Z.2.1) (hN : Z.2.1 ≤ 2048) (hn : n ≤ 1000) (hc : kc + 2 ≤ 1045) (hs : ks + 265 ≤ 157302) (k : ∀ h' : aH, LwI x m (n + 1) h' → EL Z G mL_law 10 1045 157302 qT 1022 [(0, vA Z.1), (1, vA x), (2, vA m), (3, vI i)] [] h' (kc + 2) (ks + 265)) : EL Z G mL_law 10 1045 157302 qT 333 [(0, vA Z.1), (1, vA x), (2, vA m), (3, vI i)] [] h kc ks := by
  obtain ⟨ac, ar, rr, cr, ta, tm, mk, md, on, ot, lo, hi, b1, b2, b3, b4, b5, b6, b7, b8, b9, S, hC, hM, hS⟩ := hI
  refine l_aload_n 1 dL_law_333 rfl rfl ?_
  refine l_aload_n 0 dL_law_334 rfl rfl ?_
  refine l_iload_n 3 dL_law_335 rfl rfl ?_
  refine l_iconst dL_law_336 (okI_c rfl) ?_
  refine l_iadd dL_law_337 (by unfold okI; omega) ?_
  refine l_sld dL_law_338 (by omega) (by omega) ?_
  refine l_aload_n 0 dL_law_339 rfl rfl ?_
  refine l_iload_n 3 dL_law_340 rfl rfl ?_
  refine l_iconst dL_law_341 (okI_c rfl) ?_
  refine l_iadd dL_law_342 (by unfold okI; omega) ?_
  refine l_sld dL_law_343 (by omega) (by omega) ?_
  refine l_aload_n 0 dL_law_344 rfl rfl ?_
  refine l_iload_n 3 dL_law_345 rfl rfl ?_
  refine l_iconst dL_law_346 (okI_c rfl) ?_
  refine l_iadd dL_law_347 (by unfold okI; omega) ?_
  refine l_sld dL_law_348 (by omega) (by omega) ?_
  refine l_callV [vI (sx Z (i + 1)), vI (sx Z (i + 2)), vI (sx Z (i + 3))] dL_law_349 kv_L_40 rfl rfl hC.2.1 (by omega) (Nat.le_of_ble_eq_true rfl) (by omega) (by omega) (k_X9_of (d := 9) (by omega) hC hS) (fun r1 h1 q1 => ?_)
  obtain ⟨rfl, hC1, hF1⟩ := q1
  have hM1 := hM.fr hF1
  show EL Z G mL_law 10 1045 157302 qT _ [(0, vA Z.1), (1, vA x), (2, vA m), (3, vI i)] [vI ((oOf (sx Z (i + 1)) (sx Z (i + 2)) (sx Z (i + 3)) S).1)] _ _ _
  refine l_aload_n 2 dL_law_352 rfl rfl ?_
  refine l_aload_n 0 dL_law_353 rfl rfl ?_
  refine l_iload_n 3 dL_law_354 rfl rfl ?_
  refine l_iconst dL_law_355 (okI_c rfl) ?_
  refine l_iadd dL_law_356 (by unfold okI; omega) ?_
  refine l_sld dL_law_357 (by omega) (by omega) ?_
  refine l_aload_n 0 dL_law_358 rfl rfl ?_
  refine l_iload_n 3 dL_law_359 rfl rfl ?_
  refine l_iconst dL_law_360 (okI_c rfl) ?_
  refine l_iadd dL_law_361 (by unfold okI; omega) ?_
  refine l_sld dL_law_362 (by omega) (by omega) ?_
  refine l_aload_n 0 dL_law_363 rfl rfl ?_
  refine l_iload_n 3 dL_law_364 rfl rfl ?_
  refine l_iconst dL_law_365 (okI_c rfl) ?_
  refine l_iadd dL_law_366 (by unfold okI; omega) ?_
  refine l_sld dL_law_367 (by omega) (by omega) ?_
  refine l_callV [vI (sx Z (i + 1)), vI (sx Z (i + 2)), vI (sx Z (i + 3))] dL_law_368 kv_L_43 rfl rfl hM1.2.1 (by omega) (Nat.le_of_ble_eq_true rfl) (by omega) (by omega) (k_X10_of (d := 9) (by omega) hM1 hS) (fun r2 h2 q2 => ?_)
  obtain ⟨rfl, hM2, hF2⟩ := q2
  have hC2 := hC1.fr hF2
  show EL Z G mL_law 10 1045 157302 qT _ [(0, vA Z.1), (1, vA x), (2, vA m), (3, vI i)] [vI ((oOf (sx Z (i + 1)) (sx Z (i + 2)) (sx Z (i + 3)) S).1), vI ((oOf (sx Z (i + 1)) (sx Z (i + 2)) (sx Z (i + 3)) S).1)] _ _ _
  refine l_icmp_eq 1022 dL_law_371 (by decide) (fun _ => ?_) (fun c => absurd rfl c)
  exact EL.wide (by omega) (by omega) (k _ ⟨_, _, _, _, _, _, _, _, _, _, _, _, _, _, _, _, _, _, _, _, _, _, hC2, hM2, (sok_of hS _ _ _).mono⟩)
set_option maxHeartbeats 4000000 in
theorem lc_times {Z : aZ} {G : aG} {x m n : Nat} {i : Int} {kc ks : Nat} {h : aH} (hI : LwI x m n h) (h0 : 0 ≤ i) (h4 : i + 4 ≤ Z.2.1) (hN : Z.2.1 ≤ 2048) (hn : n ≤ 1000) (hc : kc + 2 ≤ 1045) (hs : ks + 265 ≤ 157302) (k : ∀ h' : aH, LwI x m (n + 1) h' → EL Z G mL_law 10 1045 157302 qT 1022 [(0, vA Z.1), (1, vA x), (2, vA m), (3, vI i)] [] h' (kc + 2) (ks + 265)) : EL Z G mL_law 10 1045 157302 qT 376 [(0, vA Z.1), (1, vA x), (2, vA m), (3, vI i)] [] h kc ks := by
  obtain ⟨ac, ar, rr, cr, ta, tm, mk, md, on, ot, lo, hi, b1, b2, b3, b4, b5, b6, b7, b8, b9, S, hC, hM, hS⟩ := hI
  refine l_aload_n 1 dL_law_376 rfl rfl ?_
  refine l_aload_n 0 dL_law_377 rfl rfl ?_
  refine l_iload_n 3 dL_law_378 rfl rfl ?_
  refine l_iconst dL_law_379 (okI_c rfl) ?_
  refine l_iadd dL_law_380 (by unfold okI; omega) ?_
  refine l_sld dL_law_381 (by omega) (by omega) ?_
  refine l_aload_n 0 dL_law_382 rfl rfl ?_
  refine l_iload_n 3 dL_law_383 rfl rfl ?_
  refine l_iconst dL_law_384 (okI_c rfl) ?_
  refine l_iadd dL_law_385 (by unfold okI; omega) ?_
  refine l_sld dL_law_386 (by omega) (by omega) ?_
  refine l_callV [vI (sx Z (i + 1)), vI (sx Z (i + 2))] dL_law_387 kv_L_44 rfl rfl hC.2.1 (by omega) (Nat.le_of_ble_eq_true rfl) (by omega) (by omega) (k_X9_times (d := 9) (by omega) hC hS) (fun r1 h1 q1 => ?_)
  obtain ⟨rfl, hC1, hF1⟩ := q1
  have hM1 := hM.fr hF1
  show EL Z G mL_law 10 1045 157302 qT _ [(0, vA Z.1), (1, vA x), (2, vA m), (3, vI i)] [vI ((oTimes (sx Z (i + 1)) (sx Z (i + 2)) S).1)] _ _ _
  refine l_aload_n 2 dL_law_390 rfl rfl ?_
  refine l_aload_n 0 dL_law_391 rfl rfl ?_
  refine l_iload_n 3 dL_law_392 rfl rfl ?_
  refine l_iconst dL_law_393 (okI_c rfl) ?_
  refine l_iadd dL_law_394 (by unfold okI; omega) ?_
  refine l_sld dL_law_395 (by omega) (by omega) ?_
  refine l_aload_n 0 dL_law_396 rfl rfl ?_
  refine l_iload_n 3 dL_law_397 rfl rfl ?_
  refine l_iconst dL_law_398 (okI_c rfl) ?_
  refine l_iadd dL_law_399 (by unfold okI; omega) ?_
  refine l_sld dL_law_400 (by omega) (by omega) ?_
  refine l_callV [vI (sx Z (i + 1)), vI (sx Z (i + 2))] dL_law_401 kv_L_47 rfl rfl hM1.2.1 (by omega) (Nat.le_of_ble_eq_true rfl) (by omega) (by omega) (k_X10_times (d := 9) (by omega) hM1 hS) (fun r2 h2 q2 => ?_)
  obtain ⟨rfl, hM2, hF2⟩ := q2
  have hC2 := hC1.fr hF2
  show EL Z G mL_law 10 1045 157302 qT _ [(0, vA Z.1), (1, vA x), (2, vA m), (3, vI i)] [vI ((oTimes (sx Z (i + 1)) (sx Z (i + 2)) S).1), vI ((oTimes (sx Z (i + 1)) (sx Z (i + 2)) S).1)] _ _ _
  refine l_icmp_eq 1022 dL_law_404 (by decide) (fun _ => ?_) (fun c => absurd rfl c)
  exact EL.wide (by omega) (by omega) (k _ ⟨_, _, _, _, _, _, _, _, _, _, _, _, _, _, _, _, _, _, _, _, _, _, hC2, hM2, (sok_times hS _ _).mono⟩)
set_option maxHeartbeats 4000000 in
theorem lc_shift {Z : aZ} {G : aG} {x m n : Nat} {i : Int} {kc ks : Nat} {h : aH} (hI : LwI x m n h) (h0 : 0 ≤ i) (h4 : i + 4 ≤ Z.2.1) (hN : Z.2.1 ≤ 2048) (hn : n ≤ 1000) (hc : kc + 2 ≤ 1045) (hs : ks + 265 ≤ 157302) (k : ∀ h' : aH, LwI x m (n + 1) h' → EL Z G mL_law 10 1045 157302 qT 1022 [(0, vA Z.1), (1, vA x), (2, vA m), (3, vI i)] [] h' (kc + 2) (ks + 265)) : EL Z G mL_law 10 1045 157302 qT 409 [(0, vA Z.1), (1, vA x), (2, vA m), (3, vI i)] [] h kc ks := by
  obtain ⟨ac, ar, rr, cr, ta, tm, mk, md, on, ot, lo, hi, b1, b2, b3, b4, b5, b6, b7, b8, b9, S, hC, hM, hS⟩ := hI
  refine l_aload_n 1 dL_law_409 rfl rfl ?_
  refine l_aload_n 0 dL_law_410 rfl rfl ?_
  refine l_iload_n 3 dL_law_411 rfl rfl ?_
  refine l_iconst dL_law_412 (okI_c rfl) ?_
  refine l_iadd dL_law_413 (by unfold okI; omega) ?_
  refine l_sld dL_law_414 (by omega) (by omega) ?_
  refine l_aload_n 0 dL_law_415 rfl rfl ?_
  refine l_iload_n 3 dL_law_416 rfl rfl ?_
  refine l_iconst dL_law_417 (okI_c rfl) ?_
  refine l_iadd dL_law_418 (by unfold okI; omega) ?_
  refine l_sld dL_law_419 (by omega) (by omega) ?_
  refine l_callV [vI (sx Z (i + 1)), vI (sx Z (i + 2))] dL_law_420 kv_L_48 rfl rfl hC.2.1 (by omega) (Nat.le_of_ble_eq_true rfl) (by omega) (by omega) (k_X9_shift (d := 9) (by omega) hC hS) (fun r1 h1 q1 => ?_)
  obtain ⟨rfl, hC1, hF1⟩ := q1
  have hM1 := hM.fr hF1
  show EL Z G mL_law 10 1045 157302 qT _ [(0, vA Z.1), (1, vA x), (2, vA m), (3, vI i)] [vI ((oShift (sx Z (i + 1)) (sx Z (i + 2)) S).1)] _ _ _
  refine l_aload_n 2 dL_law_423 rfl rfl ?_
  refine l_aload_n 0 dL_law_424 rfl rfl ?_
  refine l_iload_n 3 dL_law_425 rfl rfl ?_
  refine l_iconst dL_law_426 (okI_c rfl) ?_
  refine l_iadd dL_law_427 (by unfold okI; omega) ?_
  refine l_sld dL_law_428 (by omega) (by omega) ?_
  refine l_aload_n 0 dL_law_429 rfl rfl ?_
  refine l_iload_n 3 dL_law_430 rfl rfl ?_
  refine l_iconst dL_law_431 (okI_c rfl) ?_
  refine l_iadd dL_law_432 (by unfold okI; omega) ?_
  refine l_sld dL_law_433 (by omega) (by omega) ?_
  refine l_callV [vI (sx Z (i + 1)), vI (sx Z (i + 2))] dL_law_434 kv_L_51 rfl rfl hM1.2.1 (by omega) (Nat.le_of_ble_eq_true rfl) (by omega) (by omega) (k_X10_shift (d := 9) (by omega) hM1 hS) (fun r2 h2 q2 => ?_)
  obtain ⟨rfl, hM2, hF2⟩ := q2
  have hC2 := hC1.fr hF2
  show EL Z G mL_law 10 1045 157302 qT _ [(0, vA Z.1), (1, vA x), (2, vA m), (3, vI i)] [vI ((oShift (sx Z (i + 1)) (sx Z (i + 2)) S).1), vI ((oShift (sx Z (i + 1)) (sx Z (i + 2)) S).1)] _ _ _
  refine l_icmp_eq 1022 dL_law_437 (by decide) (fun _ => ?_) (fun c => absurd rfl c)
  exact EL.wide (by omega) (by omega) (k _ ⟨_, _, _, _, _, _, _, _, _, _, _, _, _, _, _, _, _, _, _, _, _, _, hC2, hM2, (sok_shift hS _ _).mono⟩)
set_option maxHeartbeats 4000000 in
theorem lc_undo {Z : aZ} {G : aG} {x m n : Nat} {i : Int} {kc ks : Nat} {h : aH} (hI : LwI x m n h) (h0 : 0 ≤ i) (h4 : i + 4 ≤ Z.2.1) (hN : Z.2.1 ≤ 2048) (hn : n ≤ 1000) (hc : kc + 2 ≤ 1045) (hs : ks + 265 ≤ 157302) (k : ∀ h' : aH, LwI x m (n + 1) h' → EL Z G mL_law 10 1045 157302 qT 1022 [(0, vA Z.1), (1, vA x), (2, vA m), (3, vI i)] [] h' (kc + 2) (ks + 265)) : EL Z G mL_law 10 1045 157302 qT 442 [(0, vA Z.1), (1, vA x), (2, vA m), (3, vI i)] [] h kc ks := by
  obtain ⟨ac, ar, rr, cr, ta, tm, mk, md, on, ot, lo, hi, b1, b2, b3, b4, b5, b6, b7, b8, b9, S, hC, hM, hS⟩ := hI
  refine l_aload_n 1 dL_law_442 rfl rfl ?_
  refine l_callV [] dL_law_443 kv_L_52 rfl rfl hC.2.1 (by omega) (Nat.le_of_ble_eq_true rfl) (by omega) (by omega) (k_X9_undo (d := 9) (by omega) hC hS) (fun r1 h1 q1 => ?_)
  obtain ⟨rfl, hC1, hF1⟩ := q1
  have hM1 := hM.fr hF1
  show EL Z G mL_law 10 1045 157302 qT _ [(0, vA Z.1), (1, vA x), (2, vA m), (3, vI i)] [vI ((oUndo S).1)] _ _ _
  refine l_aload_n 2 dL_law_446 rfl rfl ?_
  refine l_callV [] dL_law_447 kv_L_55 rfl rfl hM1.2.1 (by omega) (Nat.le_of_ble_eq_true rfl) (by omega) (by omega) (k_X10_undo (d := 9) (by omega) hM1 hS) (fun r2 h2 q2 => ?_)
  obtain ⟨rfl, hM2, hF2⟩ := q2
  have hC2 := hC1.fr hF2
  show EL Z G mL_law 10 1045 157302 qT _ [(0, vA Z.1), (1, vA x), (2, vA m), (3, vI i)] [vI ((oUndo S).1), vI ((oUndo S).1)] _ _ _
  refine l_icmp_eq 1022 dL_law_450 (by decide) (fun _ => ?_) (fun c => absurd rfl c)
  exact EL.wide (by omega) (by omega) (k _ ⟨_, _, _, _, _, _, _, _, _, _, _, _, _, _, _, _, _, _, _, _, _, _, hC2, hM2, (sok_undo hS).mono⟩)
set_option maxHeartbeats 4000000 in
theorem lc_at {Z : aZ} {G : aG} {x m n : Nat} {i : Int} {kc ks : Nat} {h : aH} (hI : LwI x m n h) (h0 : 0 ≤ i) (h4 : i + 4 ≤ Z.2.1) (hN : Z.2.1 ≤ 2048) (hn : n ≤ 1000) (hc : kc + 2 ≤ 1045) (hs : ks + 265 ≤ 157302) (k : ∀ h' : aH, LwI x m (n + 1) h' → EL Z G mL_law 10 1045 157302 qT 1022 [(0, vA Z.1), (1, vA x), (2, vA m), (3, vI i)] [] h' (kc + 2) (ks + 265)) : EL Z G mL_law 10 1045 157302 qT 455 [(0, vA Z.1), (1, vA x), (2, vA m), (3, vI i)] [] h kc ks := by
  obtain ⟨ac, ar, rr, cr, ta, tm, mk, md, on, ot, lo, hi, b1, b2, b3, b4, b5, b6, b7, b8, b9, S, hC, hM, hS⟩ := hI
  refine l_aload_n 1 dL_law_455 rfl rfl ?_
  refine l_aload_n 0 dL_law_456 rfl rfl ?_
  refine l_iload_n 3 dL_law_457 rfl rfl ?_
  refine l_iconst dL_law_458 (okI_c rfl) ?_
  refine l_iadd dL_law_459 (by unfold okI; omega) ?_
  refine l_sld dL_law_460 (by omega) (by omega) ?_
  refine l_aload_n 0 dL_law_461 rfl rfl ?_
  refine l_iload_n 3 dL_law_462 rfl rfl ?_
  refine l_iconst dL_law_463 (okI_c rfl) ?_
  refine l_iadd dL_law_464 (by unfold okI; omega) ?_
  refine l_sld dL_law_465 (by omega) (by omega) ?_
  refine l_callV [vI (sx Z (i + 1)), vI (sx Z (i + 2))] dL_law_466 kv_L_56 rfl rfl hC.2.1 (by omega) (Nat.le_of_ble_eq_true rfl) (by omega) (by omega) (k_X9_at (d := 9) (by omega) hC hS (by omega)) (fun r1 h1 q1 => ?_)
  obtain ⟨rfl, hC1, hF1⟩ := q1
  have hM1 := hM.fr hF1
  show EL Z G mL_law 10 1045 157302 qT _ [(0, vA Z.1), (1, vA x), (2, vA m), (3, vI i)] [vJ ((oAt (sx Z (i + 1)) (sx Z (i + 2)) S).1)] _ _ _
  refine l_aload_n 2 dL_law_469 rfl rfl ?_
  refine l_aload_n 0 dL_law_470 rfl rfl ?_
  refine l_iload_n 3 dL_law_471 rfl rfl ?_
  refine l_iconst dL_law_472 (okI_c rfl) ?_
  refine l_iadd dL_law_473 (by unfold okI; omega) ?_
  refine l_sld dL_law_474 (by omega) (by omega) ?_
  refine l_aload_n 0 dL_law_475 rfl rfl ?_
  refine l_iload_n 3 dL_law_476 rfl rfl ?_
  refine l_iconst dL_law_477 (okI_c rfl) ?_
  refine l_iadd dL_law_478 (by unfold okI; omega) ?_
  refine l_sld dL_law_479 (by omega) (by omega) ?_
  refine l_callV [vI (sx Z (i + 1)), vI (sx Z (i + 2))] dL_law_480 kv_L_60 rfl rfl hM1.2.1 (by omega) (Nat.le_of_ble_eq_true rfl) (by omega) (by omega) (k_X10_at (d := 9) (by omega) hM1 hS (by omega)) (fun r2 h2 q2 => ?_)
  obtain ⟨rfl, hM2, hF2⟩ := q2
  have hC2 := hC1.fr hF2
  show EL Z G mL_law 10 1045 157302 qT _ [(0, vA Z.1), (1, vA x), (2, vA m), (3, vI i)] [vJ ((oAt (sx Z (i + 1)) (sx Z (i + 2)) S).1), vJ ((oAt (sx Z (i + 1)) (sx Z (i + 2)) S).1)] _ _ _
  refine l_lc_eq 1022 dL_law_483 dL_law_484 (by decide) (fun _ => ?_) (fun c => absurd rfl c)
  exact EL.wide (by omega) (by omega) (k _ ⟨_, _, _, _, _, _, _, _, _, _, _, _, _, _, _, _, _, _, _, _, _, _, hC2, hM2, (sok_at hS _ _)⟩)
set_option maxHeartbeats 4000000 in
theorem lc_about {Z : aZ} {G : aG} {x m n : Nat} {i : Int} {kc ks : Nat} {h : aH} (hI : LwI x m n h) (h0 : 0 ≤ i) (h4 : i + 4 ≤ Z.2.1) (hN : Z.2.1 ≤ 2048) (hn : n ≤ 1000) (hc : kc + 2 ≤ 1045) (hs : ks + 265 ≤ 157302) (k : ∀ h' : aH, LwI x m (n + 1) h' → EL Z G mL_law 10 1045 157302 qT 1022 [(0, vA Z.1), (1, vA x), (2, vA m), (3, vI i)] [] h' (kc + 2) (ks + 265)) : EL Z G mL_law 10 1045 157302 qT 489 [(0, vA Z.1), (1, vA x), (2, vA m), (3, vI i)] [] h kc ks := by
  obtain ⟨ac, ar, rr, cr, ta, tm, mk, md, on, ot, lo, hi, b1, b2, b3, b4, b5, b6, b7, b8, b9, S, hC, hM, hS⟩ := hI
  refine l_aload_n 1 dL_law_489 rfl rfl ?_
  refine l_aload_n 0 dL_law_490 rfl rfl ?_
  refine l_iload_n 3 dL_law_491 rfl rfl ?_
  refine l_iconst dL_law_492 (okI_c rfl) ?_
  refine l_iadd dL_law_493 (by unfold okI; omega) ?_
  refine l_sld dL_law_494 (by omega) (by omega) ?_
  refine l_aload_n 0 dL_law_495 rfl rfl ?_
  refine l_iload_n 3 dL_law_496 rfl rfl ?_
  refine l_iconst dL_law_497 (okI_c rfl) ?_
  refine l_iadd dL_law_498 (by unfold okI; omega) ?_
  refine l_sld dL_law_499 (by omega) (by omega) ?_
  refine l_callV [vI (sx Z (i + 1)), vI (sx Z (i + 2))] dL_law_500 kv_L_61 rfl rfl hC.2.1 (by omega) (Nat.le_of_ble_eq_true rfl) (by omega) (by omega) (k_X9_about (d := 9) (by omega) hC hS) (fun r1 h1 q1 => ?_)
  obtain ⟨rfl, hC1, hF1⟩ := q1
  have hM1 := hM.fr hF1
  show EL Z G mL_law 10 1045 157302 qT _ [(0, vA Z.1), (1, vA x), (2, vA m), (3, vI i)] [vI ((oAbout (sx Z (i + 1)) (sx Z (i + 2)) S).1)] _ _ _
  refine l_aload_n 2 dL_law_503 rfl rfl ?_
  refine l_aload_n 0 dL_law_504 rfl rfl ?_
  refine l_iload_n 3 dL_law_505 rfl rfl ?_
  refine l_iconst dL_law_506 (okI_c rfl) ?_
  refine l_iadd dL_law_507 (by unfold okI; omega) ?_
  refine l_sld dL_law_508 (by omega) (by omega) ?_
  refine l_aload_n 0 dL_law_509 rfl rfl ?_
  refine l_iload_n 3 dL_law_510 rfl rfl ?_
  refine l_iconst dL_law_511 (okI_c rfl) ?_
  refine l_iadd dL_law_512 (by unfold okI; omega) ?_
  refine l_sld dL_law_513 (by omega) (by omega) ?_
  refine l_callV [vI (sx Z (i + 1)), vI (sx Z (i + 2))] dL_law_514 kv_L_64 rfl rfl hM1.2.1 (by omega) (Nat.le_of_ble_eq_true rfl) (by omega) (by omega) (k_X10_about (d := 9) (by omega) hM1 hS) (fun r2 h2 q2 => ?_)
  obtain ⟨rfl, hM2, hF2⟩ := q2
  have hC2 := hC1.fr hF2
  show EL Z G mL_law 10 1045 157302 qT _ [(0, vA Z.1), (1, vA x), (2, vA m), (3, vI i)] [vI ((oAbout (sx Z (i + 1)) (sx Z (i + 2)) S).1), vI ((oAbout (sx Z (i + 1)) (sx Z (i + 2)) S).1)] _ _ _
  refine l_icmp_eq 1022 dL_law_517 (by decide) (fun _ => ?_) (fun c => absurd rfl c)
  exact EL.wide (by omega) (by omega) (k _ ⟨_, _, _, _, _, _, _, _, _, _, _, _, _, _, _, _, _, _, _, _, _, _, hC2, hM2, (sok_about hS _ _).mono⟩)
set_option maxHeartbeats 4000000 in
theorem lc_rate {Z : aZ} {G : aG} {x m n : Nat} {i : Int} {kc ks : Nat} {h : aH} (hI : LwI x m n h) (h0 : 0 ≤ i) (h4 : i + 4 ≤ Z.2.1) (hN : Z.2.1 ≤ 2048) (hn : n ≤ 1000) (hc : kc + 2 ≤ 1045) (hs : ks + 265 ≤ 157302) (k : ∀ h' : aH, LwI x m (n + 1) h' → EL Z G mL_law 10 1045 157302 qT 1022 [(0, vA Z.1), (1, vA x), (2, vA m), (3, vI i)] [] h' (kc + 2) (ks + 265)) : EL Z G mL_law 10 1045 157302 qT 522 [(0, vA Z.1), (1, vA x), (2, vA m), (3, vI i)] [] h kc ks := by
  obtain ⟨ac, ar, rr, cr, ta, tm, mk, md, on, ot, lo, hi, b1, b2, b3, b4, b5, b6, b7, b8, b9, S, hC, hM, hS⟩ := hI
  refine l_aload_n 1 dL_law_522 rfl rfl ?_
  refine l_aload_n 0 dL_law_523 rfl rfl ?_
  refine l_iload_n 3 dL_law_524 rfl rfl ?_
  refine l_iconst dL_law_525 (okI_c rfl) ?_
  refine l_iadd dL_law_526 (by unfold okI; omega) ?_
  refine l_sld dL_law_527 (by omega) (by omega) ?_
  refine l_aload_n 0 dL_law_528 rfl rfl ?_
  refine l_iload_n 3 dL_law_529 rfl rfl ?_
  refine l_iconst dL_law_530 (okI_c rfl) ?_
  refine l_iadd dL_law_531 (by unfold okI; omega) ?_
  refine l_sld dL_law_532 (by omega) (by omega) ?_
  refine l_callV [vI (sx Z (i + 1)), vI (sx Z (i + 2))] dL_law_533 kv_L_65 rfl rfl hC.2.1 (by omega) (Nat.le_of_ble_eq_true rfl) (by omega) (by omega) (k_X9_rate (d := 9) (by omega) hC hS) (fun r1 h1 q1 => ?_)
  obtain ⟨rfl, hC1, hF1⟩ := q1
  have hM1 := hM.fr hF1
  show EL Z G mL_law 10 1045 157302 qT _ [(0, vA Z.1), (1, vA x), (2, vA m), (3, vI i)] [vI ((oRate (sx Z (i + 1)) (sx Z (i + 2)) S).1)] _ _ _
  refine l_aload_n 2 dL_law_536 rfl rfl ?_
  refine l_aload_n 0 dL_law_537 rfl rfl ?_
  refine l_iload_n 3 dL_law_538 rfl rfl ?_
  refine l_iconst dL_law_539 (okI_c rfl) ?_
  refine l_iadd dL_law_540 (by unfold okI; omega) ?_
  refine l_sld dL_law_541 (by omega) (by omega) ?_
  refine l_aload_n 0 dL_law_542 rfl rfl ?_
  refine l_iload_n 3 dL_law_543 rfl rfl ?_
  refine l_iconst dL_law_544 (okI_c rfl) ?_
  refine l_iadd dL_law_545 (by unfold okI; omega) ?_
  refine l_sld dL_law_546 (by omega) (by omega) ?_
  refine l_callV [vI (sx Z (i + 1)), vI (sx Z (i + 2))] dL_law_547 kv_L_68 rfl rfl hM1.2.1 (by omega) (Nat.le_of_ble_eq_true rfl) (by omega) (by omega) (k_X10_rate (d := 9) (by omega) hM1 hS) (fun r2 h2 q2 => ?_)
  obtain ⟨rfl, hM2, hF2⟩ := q2
  have hC2 := hC1.fr hF2
  show EL Z G mL_law 10 1045 157302 qT _ [(0, vA Z.1), (1, vA x), (2, vA m), (3, vI i)] [vI ((oRate (sx Z (i + 1)) (sx Z (i + 2)) S).1), vI ((oRate (sx Z (i + 1)) (sx Z (i + 2)) S).1)] _ _ _
  refine l_icmp_eq 1022 dL_law_550 (by decide) (fun _ => ?_) (fun c => absurd rfl c)
  exact EL.wide (by omega) (by omega) (k _ ⟨_, _, _, _, _, _, _, _, _, _, _, _, _, _, _, _, _, _, _, _, _, _, hC2, hM2, (sok_rate hS _ _).mono⟩)
set_option maxHeartbeats 4000000 in
theorem lc_unlike {Z : aZ} {G : aG} {x m n : Nat} {i : Int} {kc ks : Nat} {h : aH} (hI : LwI x m n h) (h0 : 0 ≤ i) (h4 : i + 4 ≤ Z.2.1) (hN : Z.2.1 ≤ 2048) (hn : n ≤ 1000) (hc : kc + 2 ≤ 1045) (hs : ks + 265 ≤ 157302) (k : ∀ h' : aH, LwI x m (n + 1) h' → EL Z G mL_law 10 1045 157302 qT 1022 [(0, vA Z.1), (1, vA x), (2, vA m), (3, vI i)] [] h' (kc + 2) (ks + 265)) : EL Z G mL_law 10 1045 157302 qT 555 [(0, vA Z.1), (1, vA x), (2, vA m), (3, vI i)] [] h kc ks := by
  obtain ⟨ac, ar, rr, cr, ta, tm, mk, md, on, ot, lo, hi, b1, b2, b3, b4, b5, b6, b7, b8, b9, S, hC, hM, hS⟩ := hI
  refine l_aload_n 1 dL_law_555 rfl rfl ?_
  refine l_aload_n 0 dL_law_556 rfl rfl ?_
  refine l_iload_n 3 dL_law_557 rfl rfl ?_
  refine l_iconst dL_law_558 (okI_c rfl) ?_
  refine l_iadd dL_law_559 (by unfold okI; omega) ?_
  refine l_sld dL_law_560 (by omega) (by omega) ?_
  refine l_aload_n 0 dL_law_561 rfl rfl ?_
  refine l_iload_n 3 dL_law_562 rfl rfl ?_
  refine l_iconst dL_law_563 (okI_c rfl) ?_
  refine l_iadd dL_law_564 (by unfold okI; omega) ?_
  refine l_sld dL_law_565 (by omega) (by omega) ?_
  refine l_callV [vI (sx Z (i + 1)), vI (sx Z (i + 2))] dL_law_566 kv_L_69 rfl rfl hC.2.1 (by omega) (Nat.le_of_ble_eq_true rfl) (by omega) (by omega) (k_X9_unlike (d := 9) (by omega) hC hS) (fun r1 h1 q1 => ?_)
  obtain ⟨rfl, hC1, hF1⟩ := q1
  have hM1 := hM.fr hF1
  show EL Z G mL_law 10 1045 157302 qT _ [(0, vA Z.1), (1, vA x), (2, vA m), (3, vI i)] [vI ((oUnlike (sx Z (i + 1)) (sx Z (i + 2)) S).1)] _ _ _
  refine l_aload_n 2 dL_law_569 rfl rfl ?_
  refine l_aload_n 0 dL_law_570 rfl rfl ?_
  refine l_iload_n 3 dL_law_571 rfl rfl ?_
  refine l_iconst dL_law_572 (okI_c rfl) ?_
  refine l_iadd dL_law_573 (by unfold okI; omega) ?_
  refine l_sld dL_law_574 (by omega) (by omega) ?_
  refine l_aload_n 0 dL_law_575 rfl rfl ?_
  refine l_iload_n 3 dL_law_576 rfl rfl ?_
  refine l_iconst dL_law_577 (okI_c rfl) ?_
  refine l_iadd dL_law_578 (by unfold okI; omega) ?_
  refine l_sld dL_law_579 (by omega) (by omega) ?_
  refine l_callV [vI (sx Z (i + 1)), vI (sx Z (i + 2))] dL_law_580 kv_L_72 rfl rfl hM1.2.1 (by omega) (Nat.le_of_ble_eq_true rfl) (by omega) (by omega) (k_X10_unlike (d := 9) (by omega) hM1 hS) (fun r2 h2 q2 => ?_)
  obtain ⟨rfl, hM2, hF2⟩ := q2
  have hC2 := hC1.fr hF2
  show EL Z G mL_law 10 1045 157302 qT _ [(0, vA Z.1), (1, vA x), (2, vA m), (3, vI i)] [vI ((oUnlike (sx Z (i + 1)) (sx Z (i + 2)) S).1), vI ((oUnlike (sx Z (i + 1)) (sx Z (i + 2)) S).1)] _ _ _
  refine l_icmp_eq 1022 dL_law_583 (by decide) (fun _ => ?_) (fun c => absurd rfl c)
  exact EL.wide (by omega) (by omega) (k _ ⟨_, _, _, _, _, _, _, _, _, _, _, _, _, _, _, _, _, _, _, _, _, _, hC2, hM2, (sok_unlike hS _ _).mono⟩)
set_option maxHeartbeats 4000000 in
theorem lc_below {Z : aZ} {G : aG} {x m n : Nat} {i : Int} {kc ks : Nat} {h : aH} (hI : LwI x m n h) (h0 : 0 ≤ i) (h4 : i + 4 ≤ Z.2.1) (hN : Z.2.1 ≤ 2048) (hn : n ≤ 1000) (hc : kc + 2 ≤ 1045) (hs : ks + 265 ≤ 157302) (k : ∀ h' : aH, LwI x m (n + 1) h' → EL Z G mL_law 10 1045 157302 qT 1022 [(0, vA Z.1), (1, vA x), (2, vA m), (3, vI i)] [] h' (kc + 2) (ks + 265)) : EL Z G mL_law 10 1045 157302 qT 588 [(0, vA Z.1), (1, vA x), (2, vA m), (3, vI i)] [] h kc ks := by
  obtain ⟨ac, ar, rr, cr, ta, tm, mk, md, on, ot, lo, hi, b1, b2, b3, b4, b5, b6, b7, b8, b9, S, hC, hM, hS⟩ := hI
  refine l_aload_n 1 dL_law_588 rfl rfl ?_
  refine l_aload_n 0 dL_law_589 rfl rfl ?_
  refine l_iload_n 3 dL_law_590 rfl rfl ?_
  refine l_iconst dL_law_591 (okI_c rfl) ?_
  refine l_iadd dL_law_592 (by unfold okI; omega) ?_
  refine l_sld dL_law_593 (by omega) (by omega) ?_
  refine l_aload_n 0 dL_law_594 rfl rfl ?_
  refine l_iload_n 3 dL_law_595 rfl rfl ?_
  refine l_iconst dL_law_596 (okI_c rfl) ?_
  refine l_iadd dL_law_597 (by unfold okI; omega) ?_
  refine l_sld dL_law_598 (by omega) (by omega) ?_
  refine l_callV [vI (sx Z (i + 1)), vI (sx Z (i + 2))] dL_law_599 kv_L_73 rfl rfl hC.2.1 (by omega) (Nat.le_of_ble_eq_true rfl) (by omega) (by omega) (k_X9_below (d := 9) (by omega) hC hS) (fun r1 h1 q1 => ?_)
  obtain ⟨rfl, hC1, hF1⟩ := q1
  have hM1 := hM.fr hF1
  show EL Z G mL_law 10 1045 157302 qT _ [(0, vA Z.1), (1, vA x), (2, vA m), (3, vI i)] [vI ((oBelow (sx Z (i + 1)) (sx Z (i + 2)) S).1)] _ _ _
  refine l_aload_n 2 dL_law_602 rfl rfl ?_
  refine l_aload_n 0 dL_law_603 rfl rfl ?_
  refine l_iload_n 3 dL_law_604 rfl rfl ?_
  refine l_iconst dL_law_605 (okI_c rfl) ?_
  refine l_iadd dL_law_606 (by unfold okI; omega) ?_
  refine l_sld dL_law_607 (by omega) (by omega) ?_
  refine l_aload_n 0 dL_law_608 rfl rfl ?_
  refine l_iload_n 3 dL_law_609 rfl rfl ?_
  refine l_iconst dL_law_610 (okI_c rfl) ?_
  refine l_iadd dL_law_611 (by unfold okI; omega) ?_
  refine l_sld dL_law_612 (by omega) (by omega) ?_
  refine l_callV [vI (sx Z (i + 1)), vI (sx Z (i + 2))] dL_law_613 kv_L_76 rfl rfl hM1.2.1 (by omega) (Nat.le_of_ble_eq_true rfl) (by omega) (by omega) (k_X10_below (d := 9) (by omega) hM1 hS) (fun r2 h2 q2 => ?_)
  obtain ⟨rfl, hM2, hF2⟩ := q2
  have hC2 := hC1.fr hF2
  show EL Z G mL_law 10 1045 157302 qT _ [(0, vA Z.1), (1, vA x), (2, vA m), (3, vI i)] [vI ((oBelow (sx Z (i + 1)) (sx Z (i + 2)) S).1), vI ((oBelow (sx Z (i + 1)) (sx Z (i + 2)) S).1)] _ _ _
  refine l_icmp_eq 1022 dL_law_616 (by decide) (fun _ => ?_) (fun c => absurd rfl c)
  exact EL.wide (by omega) (by omega) (k _ ⟨_, _, _, _, _, _, _, _, _, _, _, _, _, _, _, _, _, _, _, _, _, _, hC2, hM2, (sok_below hS _ _).mono⟩)
set_option maxHeartbeats 4000000 in
theorem lc_first {Z : aZ} {G : aG} {x m n : Nat} {i : Int} {kc ks : Nat} {h : aH} (hI : LwI x m n h) (h0 : 0 ≤ i) (h4 : i + 4 ≤ Z.2.1) (hN : Z.2.1 ≤ 2048) (hn : n ≤ 1000) (hc : kc + 2 ≤ 1045) (hs : ks + 265 ≤ 157302) (k : ∀ h' : aH, LwI x m (n + 1) h' → EL Z G mL_law 10 1045 157302 qT 1022 [(0, vA Z.1), (1, vA x), (2, vA m), (3, vI i)] [] h' (kc + 2) (ks + 265)) : EL Z G mL_law 10 1045 157302 qT 621 [(0, vA Z.1), (1, vA x), (2, vA m), (3, vI i)] [] h kc ks := by
  obtain ⟨ac, ar, rr, cr, ta, tm, mk, md, on, ot, lo, hi, b1, b2, b3, b4, b5, b6, b7, b8, b9, S, hC, hM, hS⟩ := hI
  refine l_aload_n 1 dL_law_621 rfl rfl ?_
  refine l_aload_n 0 dL_law_622 rfl rfl ?_
  refine l_iload_n 3 dL_law_623 rfl rfl ?_
  refine l_iconst dL_law_624 (okI_c rfl) ?_
  refine l_iadd dL_law_625 (by unfold okI; omega) ?_
  refine l_sld dL_law_626 (by omega) (by omega) ?_
  refine l_aload_n 0 dL_law_627 rfl rfl ?_
  refine l_iload_n 3 dL_law_628 rfl rfl ?_
  refine l_iconst dL_law_629 (okI_c rfl) ?_
  refine l_iadd dL_law_630 (by unfold okI; omega) ?_
  refine l_sld dL_law_631 (by omega) (by omega) ?_
  refine l_i2l dL_law_632 ?_
  refine l_bipush dL_law_633 (okI_c rfl) (by decide +kernel) ?_
  refine l_jshl dL_law_635 ?_
  refine l_aload_n 0 dL_law_636 rfl rfl ?_
  refine l_iload_n 3 dL_law_637 rfl rfl ?_
  refine l_iconst dL_law_638 (okI_c rfl) ?_
  refine l_iadd dL_law_639 (by unfold okI; omega) ?_
  refine l_sld dL_law_640 (by omega) (by omega) ?_
  refine l_i2l dL_law_641 ?_
  refine l_ldc2 (n := 4294967295) dL_law_642 (okJ_c rfl) kc_L_13 ?_
  refine l_jand dL_law_645 ?_
  refine l_jor dL_law_646 ?_
  refine l_callV [vI (sx Z (i + 1)), vJ (jOr (jShl (sx Z (i + 2)) 32) (jAnd (sx Z (i + 3)) 4294967295))] dL_law_647 kv_L_77 rfl rfl hC.2.1 (by omega) (Nat.le_of_ble_eq_true rfl) (by omega) (by omega) (k_X9_first (d := 9) (by omega) hC hS) (fun r1 h1 q1 => ?_)
  obtain ⟨rfl, hC1, hF1⟩ := q1
  have hM1 := hM.fr hF1
  show EL Z G mL_law 10 1045 157302 qT _ [(0, vA Z.1), (1, vA x), (2, vA m), (3, vI i)] [vI ((oFirst (sx Z (i + 1)) (jOr (jShl (sx Z (i + 2)) 32) (jAnd (sx Z (i + 3)) 4294967295)) S).1)] _ _ _
  refine l_aload_n 2 dL_law_650 rfl rfl ?_
  refine l_aload_n 0 dL_law_651 rfl rfl ?_
  refine l_iload_n 3 dL_law_652 rfl rfl ?_
  refine l_iconst dL_law_653 (okI_c rfl) ?_
  refine l_iadd dL_law_654 (by unfold okI; omega) ?_
  refine l_sld dL_law_655 (by omega) (by omega) ?_
  refine l_aload_n 0 dL_law_656 rfl rfl ?_
  refine l_iload_n 3 dL_law_657 rfl rfl ?_
  refine l_iconst dL_law_658 (okI_c rfl) ?_
  refine l_iadd dL_law_659 (by unfold okI; omega) ?_
  refine l_sld dL_law_660 (by omega) (by omega) ?_
  refine l_i2l dL_law_661 ?_
  refine l_bipush dL_law_662 (okI_c rfl) (by decide +kernel) ?_
  refine l_jshl dL_law_664 ?_
  refine l_aload_n 0 dL_law_665 rfl rfl ?_
  refine l_iload_n 3 dL_law_666 rfl rfl ?_
  refine l_iconst dL_law_667 (okI_c rfl) ?_
  refine l_iadd dL_law_668 (by unfold okI; omega) ?_
  refine l_sld dL_law_669 (by omega) (by omega) ?_
  refine l_i2l dL_law_670 ?_
  refine l_ldc2 (n := 4294967295) dL_law_671 (okJ_c rfl) kc_L_13 ?_
  refine l_jand dL_law_674 ?_
  refine l_jor dL_law_675 ?_
  refine l_callV [vI (sx Z (i + 1)), vJ (jOr (jShl (sx Z (i + 2)) 32) (jAnd (sx Z (i + 3)) 4294967295))] dL_law_676 kv_L_81 rfl rfl hM1.2.1 (by omega) (Nat.le_of_ble_eq_true rfl) (by omega) (by omega) (k_X10_first (d := 9) (by omega) hM1 hS) (fun r2 h2 q2 => ?_)
  obtain ⟨rfl, hM2, hF2⟩ := q2
  have hC2 := hC1.fr hF2
  show EL Z G mL_law 10 1045 157302 qT _ [(0, vA Z.1), (1, vA x), (2, vA m), (3, vI i)] [vI ((oFirst (sx Z (i + 1)) (jOr (jShl (sx Z (i + 2)) 32) (jAnd (sx Z (i + 3)) 4294967295)) S).1), vI ((oFirst (sx Z (i + 1)) (jOr (jShl (sx Z (i + 2)) 32) (jAnd (sx Z (i + 3)) 4294967295)) S).1)] _ _ _
  refine l_icmp_eq 1022 dL_law_679 (by decide) (fun _ => ?_) (fun c => absurd rfl c)
  exact EL.wide (by omega) (by omega) (k _ ⟨_, _, _, _, _, _, _, _, _, _, _, _, _, _, _, _, _, _, _, _, _, _, hC2, hM2, (sok_first hS _ _).mono⟩)
set_option maxHeartbeats 4000000 in
theorem lc_heap {Z : aZ} {G : aG} {x m n : Nat} {i : Int} {kc ks : Nat} {h : aH} (hI : LwI x m n h) (h0 : 0 ≤ i) (h4 : i + 4 ≤ Z.2.1) (hN : Z.2.1 ≤ 2048) (hn : n ≤ 1000) (hc : kc + 2 ≤ 1045) (hs : ks + 265 ≤ 157302) (k : ∀ h' : aH, LwI x m (n + 1) h' → EL Z G mL_law 10 1045 157302 qT 1022 [(0, vA Z.1), (1, vA x), (2, vA m), (3, vI i)] [] h' (kc + 2) (ks + 265)) : EL Z G mL_law 10 1045 157302 qT 684 [(0, vA Z.1), (1, vA x), (2, vA m), (3, vI i)] [] h kc ks := by
  obtain ⟨ac, ar, rr, cr, ta, tm, mk, md, on, ot, lo, hi, b1, b2, b3, b4, b5, b6, b7, b8, b9, S, hC, hM, hS⟩ := hI
  refine l_aload_n 1 dL_law_684 rfl rfl ?_
  refine l_aload_n 0 dL_law_685 rfl rfl ?_
  refine l_iload_n 3 dL_law_686 rfl rfl ?_
  refine l_iconst dL_law_687 (okI_c rfl) ?_
  refine l_iadd dL_law_688 (by unfold okI; omega) ?_
  refine l_sld dL_law_689 (by omega) (by omega) ?_
  refine l_aload_n 0 dL_law_690 rfl rfl ?_
  refine l_iload_n 3 dL_law_691 rfl rfl ?_
  refine l_iconst dL_law_692 (okI_c rfl) ?_
  refine l_iadd dL_law_693 (by unfold okI; omega) ?_
  refine l_sld dL_law_694 (by omega) (by omega) ?_
  refine l_callV [vI (sx Z (i + 1)), vI (sx Z (i + 2))] dL_law_695 kv_L_82 rfl rfl hC.2.1 (by omega) (Nat.le_of_ble_eq_true rfl) (by omega) (by omega) (k_X9_heap (d := 9) (by omega) hC hS) (fun r1 h1 q1 => ?_)
  obtain ⟨rfl, hC1, hF1⟩ := q1
  have hM1 := hM.fr hF1
  show EL Z G mL_law 10 1045 157302 qT _ [(0, vA Z.1), (1, vA x), (2, vA m), (3, vI i)] [vJ ((oHeap (sx Z (i + 1)) (sx Z (i + 2)) S).1)] _ _ _
  refine l_aload_n 2 dL_law_698 rfl rfl ?_
  refine l_aload_n 0 dL_law_699 rfl rfl ?_
  refine l_iload_n 3 dL_law_700 rfl rfl ?_
  refine l_iconst dL_law_701 (okI_c rfl) ?_
  refine l_iadd dL_law_702 (by unfold okI; omega) ?_
  refine l_sld dL_law_703 (by omega) (by omega) ?_
  refine l_aload_n 0 dL_law_704 rfl rfl ?_
  refine l_iload_n 3 dL_law_705 rfl rfl ?_
  refine l_iconst dL_law_706 (okI_c rfl) ?_
  refine l_iadd dL_law_707 (by unfold okI; omega) ?_
  refine l_sld dL_law_708 (by omega) (by omega) ?_
  refine l_callV [vI (sx Z (i + 1)), vI (sx Z (i + 2))] dL_law_709 kv_L_85 rfl rfl hM1.2.1 (by omega) (Nat.le_of_ble_eq_true rfl) (by omega) (by omega) (k_X10_heap (d := 9) (by omega) hM1 hS) (fun r2 h2 q2 => ?_)
  obtain ⟨rfl, hM2, hF2⟩ := q2
  have hC2 := hC1.fr hF2
  show EL Z G mL_law 10 1045 157302 qT _ [(0, vA Z.1), (1, vA x), (2, vA m), (3, vI i)] [vJ ((oHeap (sx Z (i + 1)) (sx Z (i + 2)) S).1), vJ ((oHeap (sx Z (i + 1)) (sx Z (i + 2)) S).1)] _ _ _
  refine l_lc_eq 1022 dL_law_712 dL_law_713 (by decide) (fun _ => ?_) (fun c => absurd rfl c)
  exact EL.wide (by omega) (by omega) (k _ ⟨_, _, _, _, _, _, _, _, _, _, _, _, _, _, _, _, _, _, _, _, _, _, hC2, hM2, (sok_heap hS _ _).mono⟩)
set_option maxHeartbeats 4000000 in
theorem lc_wait {Z : aZ} {G : aG} {x m n : Nat} {i : Int} {kc ks : Nat} {h : aH} (hI : LwI x m n h) (h0 : 0 ≤ i) (h4 : i + 4 ≤ Z.2.1) (hN : Z.2.1 ≤ 2048) (hn : n ≤ 1000) (hc : kc + 2 ≤ 1045) (hs : ks + 265 ≤ 157302) (k : ∀ h' : aH, LwI x m (n + 1) h' → EL Z G mL_law 10 1045 157302 qT 1022 [(0, vA Z.1), (1, vA x), (2, vA m), (3, vI i)] [] h' (kc + 2) (ks + 265)) : EL Z G mL_law 10 1045 157302 qT 718 [(0, vA Z.1), (1, vA x), (2, vA m), (3, vI i)] [] h kc ks := by
  obtain ⟨ac, ar, rr, cr, ta, tm, mk, md, on, ot, lo, hi, b1, b2, b3, b4, b5, b6, b7, b8, b9, S, hC, hM, hS⟩ := hI
  refine l_aload_n 1 dL_law_718 rfl rfl ?_
  refine l_aload_n 0 dL_law_719 rfl rfl ?_
  refine l_iload_n 3 dL_law_720 rfl rfl ?_
  refine l_iconst dL_law_721 (okI_c rfl) ?_
  refine l_iadd dL_law_722 (by unfold okI; omega) ?_
  refine l_sld dL_law_723 (by omega) (by omega) ?_
  refine l_aload_n 0 dL_law_724 rfl rfl ?_
  refine l_iload_n 3 dL_law_725 rfl rfl ?_
  refine l_iconst dL_law_726 (okI_c rfl) ?_
  refine l_iadd dL_law_727 (by unfold okI; omega) ?_
  refine l_sld dL_law_728 (by omega) (by omega) ?_
  refine l_callV [vI (sx Z (i + 1)), vI (sx Z (i + 2))] dL_law_729 kv_L_86 rfl rfl hC.2.1 (by omega) (Nat.le_of_ble_eq_true rfl) (by omega) (by omega) (k_X9_wait (d := 9) (by omega) hC hS) (fun r1 h1 q1 => ?_)
  obtain ⟨rfl, hC1, hF1⟩ := q1
  have hM1 := hM.fr hF1
  show EL Z G mL_law 10 1045 157302 qT _ [(0, vA Z.1), (1, vA x), (2, vA m), (3, vI i)] [vI ((oWait (sx Z (i + 1)) (sx Z (i + 2)) S).1)] _ _ _
  refine l_aload_n 2 dL_law_732 rfl rfl ?_
  refine l_aload_n 0 dL_law_733 rfl rfl ?_
  refine l_iload_n 3 dL_law_734 rfl rfl ?_
  refine l_iconst dL_law_735 (okI_c rfl) ?_
  refine l_iadd dL_law_736 (by unfold okI; omega) ?_
  refine l_sld dL_law_737 (by omega) (by omega) ?_
  refine l_aload_n 0 dL_law_738 rfl rfl ?_
  refine l_iload_n 3 dL_law_739 rfl rfl ?_
  refine l_iconst dL_law_740 (okI_c rfl) ?_
  refine l_iadd dL_law_741 (by unfold okI; omega) ?_
  refine l_sld dL_law_742 (by omega) (by omega) ?_
  refine l_callV [vI (sx Z (i + 1)), vI (sx Z (i + 2))] dL_law_743 kv_L_89 rfl rfl hM1.2.1 (by omega) (Nat.le_of_ble_eq_true rfl) (by omega) (by omega) (k_X10_wait (d := 9) (by omega) hM1 hS) (fun r2 h2 q2 => ?_)
  obtain ⟨rfl, hM2, hF2⟩ := q2
  have hC2 := hC1.fr hF2
  show EL Z G mL_law 10 1045 157302 qT _ [(0, vA Z.1), (1, vA x), (2, vA m), (3, vI i)] [vI ((oWait (sx Z (i + 1)) (sx Z (i + 2)) S).1), vI ((oWait (sx Z (i + 1)) (sx Z (i + 2)) S).1)] _ _ _
  refine l_icmp_eq 1022 dL_law_746 (by decide) (fun _ => ?_) (fun c => absurd rfl c)
  exact EL.wide (by omega) (by omega) (k _ ⟨_, _, _, _, _, _, _, _, _, _, _, _, _, _, _, _, _, _, _, _, _, _, hC2, hM2, (sok_wait hS _ _).mono⟩)
set_option maxHeartbeats 4000000 in
theorem lc_come {Z : aZ} {G : aG} {x m n : Nat} {i : Int} {kc ks : Nat} {h : aH} (hI : LwI x m n h) (h0 : 0 ≤ i) (h4 : i + 4 ≤ Z.2.1) (hN : Z.2.1 ≤ 2048) (hn : n ≤ 1000) (hc : kc + 2 ≤ 1045) (hs : ks + 265 ≤ 157302) (k : ∀ h' : aH, LwI x m (n + 1) h' → EL Z G mL_law 10 1045 157302 qT 1022 [(0, vA Z.1), (1, vA x), (2, vA m), (3, vI i)] [] h' (kc + 2) (ks + 265)) : EL Z G mL_law 10 1045 157302 qT 751 [(0, vA Z.1), (1, vA x), (2, vA m), (3, vI i)] [] h kc ks := by
  obtain ⟨ac, ar, rr, cr, ta, tm, mk, md, on, ot, lo, hi, b1, b2, b3, b4, b5, b6, b7, b8, b9, S, hC, hM, hS⟩ := hI
  refine l_aload_n 1 dL_law_751 rfl rfl ?_
  refine l_aload_n 0 dL_law_752 rfl rfl ?_
  refine l_iload_n 3 dL_law_753 rfl rfl ?_
  refine l_iconst dL_law_754 (okI_c rfl) ?_
  refine l_iadd dL_law_755 (by unfold okI; omega) ?_
  refine l_sld dL_law_756 (by omega) (by omega) ?_
  refine l_callV [vI (sx Z (i + 1))] dL_law_757 kv_L_90 rfl rfl hC.2.1 (by omega) (Nat.le_of_ble_eq_true rfl) (by omega) (by omega) (k_X9_come (d := 9) (by omega) hC hS) (fun r1 h1 q1 => ?_)
  obtain ⟨rfl, hC1, hF1⟩ := q1
  have hM1 := hM.fr hF1
  show EL Z G mL_law 10 1045 157302 qT _ [(0, vA Z.1), (1, vA x), (2, vA m), (3, vI i)] [vI ((oCome (sx Z (i + 1)) S).1)] _ _ _
  refine l_aload_n 2 dL_law_760 rfl rfl ?_
  refine l_aload_n 0 dL_law_761 rfl rfl ?_
  refine l_iload_n 3 dL_law_762 rfl rfl ?_
  refine l_iconst dL_law_763 (okI_c rfl) ?_
  refine l_iadd dL_law_764 (by unfold okI; omega) ?_
  refine l_sld dL_law_765 (by omega) (by omega) ?_
  refine l_callV [vI (sx Z (i + 1))] dL_law_766 kv_L_93 rfl rfl hM1.2.1 (by omega) (Nat.le_of_ble_eq_true rfl) (by omega) (by omega) (k_X10_come (d := 9) (by omega) hM1 hS) (fun r2 h2 q2 => ?_)
  obtain ⟨rfl, hM2, hF2⟩ := q2
  have hC2 := hC1.fr hF2
  show EL Z G mL_law 10 1045 157302 qT _ [(0, vA Z.1), (1, vA x), (2, vA m), (3, vI i)] [vI ((oCome (sx Z (i + 1)) S).1), vI ((oCome (sx Z (i + 1)) S).1)] _ _ _
  refine l_icmp_eq 1022 dL_law_769 (by decide) (fun _ => ?_) (fun c => absurd rfl c)
  exact EL.wide (by omega) (by omega) (k _ ⟨_, _, _, _, _, _, _, _, _, _, _, _, _, _, _, _, _, _, _, _, _, _, hC2, hM2, (sok_come hS _).mono⟩)
set_option maxHeartbeats 4000000 in
theorem lc_hardest {Z : aZ} {G : aG} {x m n : Nat} {i : Int} {kc ks : Nat} {h : aH} (hI : LwI x m n h) (h0 : 0 ≤ i) (h4 : i + 4 ≤ Z.2.1) (hN : Z.2.1 ≤ 2048) (hn : n ≤ 1000) (hc : kc + 2 ≤ 1045) (hs : ks + 265 ≤ 157302) (k : ∀ h' : aH, LwI x m (n + 1) h' → EL Z G mL_law 10 1045 157302 qT 1022 [(0, vA Z.1), (1, vA x), (2, vA m), (3, vI i)] [] h' (kc + 2) (ks + 265)) : EL Z G mL_law 10 1045 157302 qT 774 [(0, vA Z.1), (1, vA x), (2, vA m), (3, vI i)] [] h kc ks := by
  obtain ⟨ac, ar, rr, cr, ta, tm, mk, md, on, ot, lo, hi, b1, b2, b3, b4, b5, b6, b7, b8, b9, S, hC, hM, hS⟩ := hI
  refine l_aload_n 1 dL_law_774 rfl rfl ?_
  refine l_aload_n 0 dL_law_775 rfl rfl ?_
  refine l_iload_n 3 dL_law_776 rfl rfl ?_
  refine l_iconst dL_law_777 (okI_c rfl) ?_
  refine l_iadd dL_law_778 (by unfold okI; omega) ?_
  refine l_sld dL_law_779 (by omega) (by omega) ?_
  refine l_aload_n 0 dL_law_780 rfl rfl ?_
  refine l_iload_n 3 dL_law_781 rfl rfl ?_
  refine l_iconst dL_law_782 (okI_c rfl) ?_
  refine l_iadd dL_law_783 (by unfold okI; omega) ?_
  refine l_sld dL_law_784 (by omega) (by omega) ?_
  refine l_callV [vI (sx Z (i + 1)), vI (sx Z (i + 2))] dL_law_785 kv_L_94 rfl rfl hC.2.1 (by omega) (Nat.le_of_ble_eq_true rfl) (by omega) (by omega) (k_X9_hardest (d := 9) (by omega) hC hS) (fun r1 h1 q1 => ?_)
  obtain ⟨rfl, hC1, hF1⟩ := q1
  have hM1 := hM.fr hF1
  show EL Z G mL_law 10 1045 157302 qT _ [(0, vA Z.1), (1, vA x), (2, vA m), (3, vI i)] [vI ((oHardest (sx Z (i + 1)) (sx Z (i + 2)) S).1)] _ _ _
  refine l_aload_n 2 dL_law_788 rfl rfl ?_
  refine l_aload_n 0 dL_law_789 rfl rfl ?_
  refine l_iload_n 3 dL_law_790 rfl rfl ?_
  refine l_iconst dL_law_791 (okI_c rfl) ?_
  refine l_iadd dL_law_792 (by unfold okI; omega) ?_
  refine l_sld dL_law_793 (by omega) (by omega) ?_
  refine l_aload_n 0 dL_law_794 rfl rfl ?_
  refine l_iload_n 3 dL_law_795 rfl rfl ?_
  refine l_iconst dL_law_796 (okI_c rfl) ?_
  refine l_iadd dL_law_797 (by unfold okI; omega) ?_
  refine l_sld dL_law_798 (by omega) (by omega) ?_
  refine l_callV [vI (sx Z (i + 1)), vI (sx Z (i + 2))] dL_law_799 kv_L_97 rfl rfl hM1.2.1 (by omega) (Nat.le_of_ble_eq_true rfl) (by omega) (by omega) (k_X10_hardest (d := 9) (by omega) hM1 hS) (fun r2 h2 q2 => ?_)
  obtain ⟨rfl, hM2, hF2⟩ := q2
  have hC2 := hC1.fr hF2
  show EL Z G mL_law 10 1045 157302 qT _ [(0, vA Z.1), (1, vA x), (2, vA m), (3, vI i)] [vI ((oHardest (sx Z (i + 1)) (sx Z (i + 2)) S).1), vI ((oHardest (sx Z (i + 1)) (sx Z (i + 2)) S).1)] _ _ _
  refine l_icmp_eq 1022 dL_law_802 (by decide) (fun _ => ?_) (fun c => absurd rfl c)
  exact EL.wide (by omega) (by omega) (k _ ⟨_, _, _, _, _, _, _, _, _, _, _, _, _, _, _, _, _, _, _, _, _, _, hC2, hM2, (sok_hardest hS _ _).mono⟩)
set_option maxHeartbeats 4000000 in
theorem lc_stop {Z : aZ} {G : aG} {x m n : Nat} {i : Int} {kc ks : Nat} {h : aH} (hI : LwI x m n h) (h0 : 0 ≤ i) (h4 : i + 4 ≤ Z.2.1) (hN : Z.2.1 ≤ 2048) (hn : n ≤ 1000) (hc : kc + 2 ≤ 1045) (hs : ks + 265 ≤ 157302) (k : ∀ h' : aH, LwI x m (n + 1) h' → EL Z G mL_law 10 1045 157302 qT 1022 [(0, vA Z.1), (1, vA x), (2, vA m), (3, vI i)] [] h' (kc + 2) (ks + 265)) : EL Z G mL_law 10 1045 157302 qT 807 [(0, vA Z.1), (1, vA x), (2, vA m), (3, vI i)] [] h kc ks := by
  obtain ⟨ac, ar, rr, cr, ta, tm, mk, md, on, ot, lo, hi, b1, b2, b3, b4, b5, b6, b7, b8, b9, S, hC, hM, hS⟩ := hI
  refine l_aload_n 1 dL_law_807 rfl rfl ?_
  refine l_callV [] dL_law_808 kv_L_98 rfl rfl hC.2.1 (by omega) (Nat.le_of_ble_eq_true rfl) (by omega) (by omega) (k_X9_stop (d := 9) (by omega) hC hS) (fun r1 h1 q1 => ?_)
  obtain ⟨rfl, hC1, hF1⟩ := q1
  have hM1 := hM.fr hF1
  show EL Z G mL_law 10 1045 157302 qT _ [(0, vA Z.1), (1, vA x), (2, vA m), (3, vI i)] [vI ((oStop S).1)] _ _ _
  refine l_aload_n 2 dL_law_811 rfl rfl ?_
  refine l_callV [] dL_law_812 kv_L_101 rfl rfl hM1.2.1 (by omega) (Nat.le_of_ble_eq_true rfl) (by omega) (by omega) (k_X10_stop (d := 9) (by omega) hM1 hS) (fun r2 h2 q2 => ?_)
  obtain ⟨rfl, hM2, hF2⟩ := q2
  have hC2 := hC1.fr hF2
  show EL Z G mL_law 10 1045 157302 qT _ [(0, vA Z.1), (1, vA x), (2, vA m), (3, vI i)] [vI ((oStop S).1), vI ((oStop S).1)] _ _ _
  refine l_icmp_eq 1022 dL_law_815 (by decide) (fun _ => ?_) (fun c => absurd rfl c)
  exact EL.wide (by omega) (by omega) (k _ ⟨_, _, _, _, _, _, _, _, _, _, _, _, _, _, _, _, _, _, _, _, _, _, hC2, hM2, (sok_stop hS).mono⟩)
set_option maxHeartbeats 4000000 in
theorem lc_serve {Z : aZ} {G : aG} {x m n : Nat} {i : Int} {kc ks : Nat} {h : aH} (hI : LwI x m n h) (h0 : 0 ≤ i) (h4 : i + 4 ≤ Z.2.1) (hN : Z.2.1 ≤ 2048) (hn : n ≤ 1000) (hc : kc + 2 ≤ 1045) (hs : ks + 265 ≤ 157302) (k : ∀ h' : aH, LwI x m (n + 1) h' → EL Z G mL_law 10 1045 157302 qT 1022 [(0, vA Z.1), (1, vA x), (2, vA m), (3, vI i)] [] h' (kc + 2) (ks + 265)) : EL Z G mL_law 10 1045 157302 qT 820 [(0, vA Z.1), (1, vA x), (2, vA m), (3, vI i)] [] h kc ks := by
  obtain ⟨ac, ar, rr, cr, ta, tm, mk, md, on, ot, lo, hi, b1, b2, b3, b4, b5, b6, b7, b8, b9, S, hC, hM, hS⟩ := hI
  refine l_aload_n 1 dL_law_820 rfl rfl ?_
  refine l_aload_n 0 dL_law_821 rfl rfl ?_
  refine l_iload_n 3 dL_law_822 rfl rfl ?_
  refine l_iconst dL_law_823 (okI_c rfl) ?_
  refine l_iadd dL_law_824 (by unfold okI; omega) ?_
  refine l_sld dL_law_825 (by omega) (by omega) ?_
  refine l_callV [vI (sx Z (i + 1))] dL_law_826 kv_L_102 rfl rfl hC.2.1 (by omega) (Nat.le_of_ble_eq_true rfl) (by omega) (by omega) (k_X9_serve (d := 9) (by omega) hC hS) (fun r1 h1 q1 => ?_)
  obtain ⟨rfl, hC1, hF1⟩ := q1
  have hM1 := hM.fr hF1
  show EL Z G mL_law 10 1045 157302 qT _ [(0, vA Z.1), (1, vA x), (2, vA m), (3, vI i)] [vI ((oServe (sx Z (i + 1)) S).1)] _ _ _
  refine l_aload_n 2 dL_law_829 rfl rfl ?_
  refine l_aload_n 0 dL_law_830 rfl rfl ?_
  refine l_iload_n 3 dL_law_831 rfl rfl ?_
  refine l_iconst dL_law_832 (okI_c rfl) ?_
  refine l_iadd dL_law_833 (by unfold okI; omega) ?_
  refine l_sld dL_law_834 (by omega) (by omega) ?_
  refine l_callV [vI (sx Z (i + 1))] dL_law_835 kv_L_105 rfl rfl hM1.2.1 (by omega) (Nat.le_of_ble_eq_true rfl) (by omega) (by omega) (k_X10_serve (d := 9) (by omega) hM1 hS) (fun r2 h2 q2 => ?_)
  obtain ⟨rfl, hM2, hF2⟩ := q2
  have hC2 := hC1.fr hF2
  show EL Z G mL_law 10 1045 157302 qT _ [(0, vA Z.1), (1, vA x), (2, vA m), (3, vI i)] [vI ((oServe (sx Z (i + 1)) S).1), vI ((oServe (sx Z (i + 1)) S).1)] _ _ _
  refine l_icmp_eq 1022 dL_law_838 (by decide) (fun _ => ?_) (fun c => absurd rfl c)
  exact EL.wide (by omega) (by omega) (k _ ⟨_, _, _, _, _, _, _, _, _, _, _, _, _, _, _, _, _, _, _, _, _, _, hC2, hM2, (sok_serve hS _).mono⟩)
set_option maxHeartbeats 4000000 in
theorem lc_moved {Z : aZ} {G : aG} {x m n : Nat} {i : Int} {kc ks : Nat} {h : aH} (hI : LwI x m n h) (h0 : 0 ≤ i) (h4 : i + 4 ≤ Z.2.1) (hN : Z.2.1 ≤ 2048) (hn : n ≤ 1000) (hc : kc + 2 ≤ 1045) (hs : ks + 265 ≤ 157302) (k : ∀ h' : aH, LwI x m (n + 1) h' → EL Z G mL_law 10 1045 157302 qT 1022 [(0, vA Z.1), (1, vA x), (2, vA m), (3, vI i)] [] h' (kc + 2) (ks + 265)) : EL Z G mL_law 10 1045 157302 qT 843 [(0, vA Z.1), (1, vA x), (2, vA m), (3, vI i)] [] h kc ks := by
  obtain ⟨ac, ar, rr, cr, ta, tm, mk, md, on, ot, lo, hi, b1, b2, b3, b4, b5, b6, b7, b8, b9, S, hC, hM, hS⟩ := hI
  refine l_aload_n 1 dL_law_843 rfl rfl ?_
  refine l_aload_n 0 dL_law_844 rfl rfl ?_
  refine l_iload_n 3 dL_law_845 rfl rfl ?_
  refine l_iconst dL_law_846 (okI_c rfl) ?_
  refine l_iadd dL_law_847 (by unfold okI; omega) ?_
  refine l_sld dL_law_848 (by omega) (by omega) ?_
  refine l_aload_n 0 dL_law_849 rfl rfl ?_
  refine l_iload_n 3 dL_law_850 rfl rfl ?_
  refine l_iconst dL_law_851 (okI_c rfl) ?_
  refine l_iadd dL_law_852 (by unfold okI; omega) ?_
  refine l_sld dL_law_853 (by omega) (by omega) ?_
  refine l_callV [vI (sx Z (i + 1)), vI (sx Z (i + 2))] dL_law_854 kv_L_106 rfl rfl hC.2.1 (by omega) (Nat.le_of_ble_eq_true rfl) (by omega) (by omega) (k_X9_moved (d := 9) (by omega) hC hS) (fun r1 h1 q1 => ?_)
  obtain ⟨rfl, hC1, hF1⟩ := q1
  have hM1 := hM.fr hF1
  show EL Z G mL_law 10 1045 157302 qT _ [(0, vA Z.1), (1, vA x), (2, vA m), (3, vI i)] [vJ ((oMoved (sx Z (i + 1)) (sx Z (i + 2)) S).1)] _ _ _
  refine l_aload_n 2 dL_law_857 rfl rfl ?_
  refine l_aload_n 0 dL_law_858 rfl rfl ?_
  refine l_iload_n 3 dL_law_859 rfl rfl ?_
  refine l_iconst dL_law_860 (okI_c rfl) ?_
  refine l_iadd dL_law_861 (by unfold okI; omega) ?_
  refine l_sld dL_law_862 (by omega) (by omega) ?_
  refine l_aload_n 0 dL_law_863 rfl rfl ?_
  refine l_iload_n 3 dL_law_864 rfl rfl ?_
  refine l_iconst dL_law_865 (okI_c rfl) ?_
  refine l_iadd dL_law_866 (by unfold okI; omega) ?_
  refine l_sld dL_law_867 (by omega) (by omega) ?_
  refine l_callV [vI (sx Z (i + 1)), vI (sx Z (i + 2))] dL_law_868 kv_L_109 rfl rfl hM1.2.1 (by omega) (Nat.le_of_ble_eq_true rfl) (by omega) (by omega) (k_X10_moved (d := 9) (by omega) hM1 hS) (fun r2 h2 q2 => ?_)
  obtain ⟨rfl, hM2, hF2⟩ := q2
  have hC2 := hC1.fr hF2
  show EL Z G mL_law 10 1045 157302 qT _ [(0, vA Z.1), (1, vA x), (2, vA m), (3, vI i)] [vJ ((oMoved (sx Z (i + 1)) (sx Z (i + 2)) S).1), vJ ((oMoved (sx Z (i + 1)) (sx Z (i + 2)) S).1)] _ _ _
  refine l_lc_eq 1022 dL_law_871 dL_law_872 (by decide) (fun _ => ?_) (fun c => absurd rfl c)
  exact EL.wide (by omega) (by omega) (k _ ⟨_, _, _, _, _, _, _, _, _, _, _, _, _, _, _, _, _, _, _, _, _, _, hC2, hM2, (sok_moved hS _ _).mono⟩)
set_option maxHeartbeats 4000000 in
theorem lc_late {Z : aZ} {G : aG} {x m n : Nat} {i : Int} {kc ks : Nat} {h : aH} (hI : LwI x m n h) (h0 : 0 ≤ i) (h4 : i + 4 ≤ Z.2.1) (hN : Z.2.1 ≤ 2048) (hn : n ≤ 1000) (hc : kc + 2 ≤ 1045) (hs : ks + 265 ≤ 157302) (k : ∀ h' : aH, LwI x m (n + 1) h' → EL Z G mL_law 10 1045 157302 qT 1022 [(0, vA Z.1), (1, vA x), (2, vA m), (3, vI i)] [] h' (kc + 2) (ks + 265)) : EL Z G mL_law 10 1045 157302 qT 877 [(0, vA Z.1), (1, vA x), (2, vA m), (3, vI i)] [] h kc ks := by
  obtain ⟨ac, ar, rr, cr, ta, tm, mk, md, on, ot, lo, hi, b1, b2, b3, b4, b5, b6, b7, b8, b9, S, hC, hM, hS⟩ := hI
  refine l_aload_n 1 dL_law_877 rfl rfl ?_
  refine l_aload_n 0 dL_law_878 rfl rfl ?_
  refine l_iload_n 3 dL_law_879 rfl rfl ?_
  refine l_iconst dL_law_880 (okI_c rfl) ?_
  refine l_iadd dL_law_881 (by unfold okI; omega) ?_
  refine l_sld dL_law_882 (by omega) (by omega) ?_
  refine l_callV [vI (sx Z (i + 1))] dL_law_883 kv_L_110 rfl rfl hC.2.1 (by omega) (Nat.le_of_ble_eq_true rfl) (by omega) (by omega) (k_X9_late (d := 9) (by omega) hC hS) (fun r1 h1 q1 => ?_)
  obtain ⟨rfl, hC1, hF1⟩ := q1
  have hM1 := hM.fr hF1
  show EL Z G mL_law 10 1045 157302 qT _ [(0, vA Z.1), (1, vA x), (2, vA m), (3, vI i)] [vI ((oLate (sx Z (i + 1)) S).1)] _ _ _
  refine l_aload_n 2 dL_law_886 rfl rfl ?_
  refine l_aload_n 0 dL_law_887 rfl rfl ?_
  refine l_iload_n 3 dL_law_888 rfl rfl ?_
  refine l_iconst dL_law_889 (okI_c rfl) ?_
  refine l_iadd dL_law_890 (by unfold okI; omega) ?_
  refine l_sld dL_law_891 (by omega) (by omega) ?_
  refine l_callV [vI (sx Z (i + 1))] dL_law_892 kv_L_113 rfl rfl hM1.2.1 (by omega) (Nat.le_of_ble_eq_true rfl) (by omega) (by omega) (k_X10_late (d := 9) (by omega) hM1 hS) (fun r2 h2 q2 => ?_)
  obtain ⟨rfl, hM2, hF2⟩ := q2
  have hC2 := hC1.fr hF2
  show EL Z G mL_law 10 1045 157302 qT _ [(0, vA Z.1), (1, vA x), (2, vA m), (3, vI i)] [vI ((oLate (sx Z (i + 1)) S).1), vI ((oLate (sx Z (i + 1)) S).1)] _ _ _
  refine l_icmp_eq 1022 dL_law_895 (by decide) (fun _ => ?_) (fun c => absurd rfl c)
  exact EL.wide (by omega) (by omega) (k _ ⟨_, _, _, _, _, _, _, _, _, _, _, _, _, _, _, _, _, _, _, _, _, _, hC2, hM2, (sok_late hS _).mono⟩)
set_option maxHeartbeats 4000000 in
theorem lc_mostHeld {Z : aZ} {G : aG} {x m n : Nat} {i : Int} {kc ks : Nat} {h : aH} (hI : LwI x m n h) (h0 : 0 ≤ i) (h4 : i + 4 ≤ Z.2.1) (hN : Z.2.1 ≤ 2048) (hn : n ≤ 1000) (hc : kc + 2 ≤ 1045) (hs : ks + 265 ≤ 157302) (k : ∀ h' : aH, LwI x m (n + 1) h' → EL Z G mL_law 10 1045 157302 qT 1022 [(0, vA Z.1), (1, vA x), (2, vA m), (3, vI i)] [] h' (kc + 2) (ks + 265)) : EL Z G mL_law 10 1045 157302 qT 900 [(0, vA Z.1), (1, vA x), (2, vA m), (3, vI i)] [] h kc ks := by
  obtain ⟨ac, ar, rr, cr, ta, tm, mk, md, on, ot, lo, hi, b1, b2, b3, b4, b5, b6, b7, b8, b9, S, hC, hM, hS⟩ := hI
  refine l_aload_n 1 dL_law_900 rfl rfl ?_
  refine l_callV [] dL_law_901 kv_L_114 rfl rfl hC.2.1 (by omega) (Nat.le_of_ble_eq_true rfl) (by omega) (by omega) (k_X9_mostHeld (d := 9) (by omega) hC hS) (fun r1 h1 q1 => ?_)
  obtain ⟨rfl, hC1, hF1⟩ := q1
  have hM1 := hM.fr hF1
  show EL Z G mL_law 10 1045 157302 qT _ [(0, vA Z.1), (1, vA x), (2, vA m), (3, vI i)] [vJ ((oMostHeld S).1)] _ _ _
  refine l_aload_n 2 dL_law_904 rfl rfl ?_
  refine l_callV [] dL_law_905 kv_L_118 rfl rfl hM1.2.1 (by omega) (Nat.le_of_ble_eq_true rfl) (by omega) (by omega) (k_X10_mostHeld (d := 9) (by omega) hM1 hS) (fun r2 h2 q2 => ?_)
  obtain ⟨rfl, hM2, hF2⟩ := q2
  have hC2 := hC1.fr hF2
  show EL Z G mL_law 10 1045 157302 qT _ [(0, vA Z.1), (1, vA x), (2, vA m), (3, vI i)] [vJ ((oMostHeld S).1), vJ ((oMostHeld S).1)] _ _ _
  refine l_lc_eq 1022 dL_law_908 dL_law_909 (by decide) (fun _ => ?_) (fun c => absurd rfl c)
  exact EL.wide (by omega) (by omega) (k _ ⟨_, _, _, _, _, _, _, _, _, _, _, _, _, _, _, _, _, _, _, _, _, _, hC2, hM2, (sok_mostHeld hS).mono⟩)
set_option maxHeartbeats 4000000 in
theorem lc_mostLate {Z : aZ} {G : aG} {x m n : Nat} {i : Int} {kc ks : Nat} {h : aH} (hI : LwI x m n h) (h0 : 0 ≤ i) (h4 : i + 4 ≤ Z.2.1) (hN : Z.2.1 ≤ 2048) (hn : n ≤ 1000) (hc : kc + 2 ≤ 1045) (hs : ks + 265 ≤ 157302) (k : ∀ h' : aH, LwI x m (n + 1) h' → EL Z G mL_law 10 1045 157302 qT 1022 [(0, vA Z.1), (1, vA x), (2, vA m), (3, vI i)] [] h' (kc + 2) (ks + 265)) : EL Z G mL_law 10 1045 157302 qT 914 [(0, vA Z.1), (1, vA x), (2, vA m), (3, vI i)] [] h kc ks := by
  obtain ⟨ac, ar, rr, cr, ta, tm, mk, md, on, ot, lo, hi, b1, b2, b3, b4, b5, b6, b7, b8, b9, S, hC, hM, hS⟩ := hI
  refine l_aload_n 1 dL_law_914 rfl rfl ?_
  refine l_callV [] dL_law_915 kv_L_119 rfl rfl hC.2.1 (by omega) (Nat.le_of_ble_eq_true rfl) (by omega) (by omega) (k_X9_mostLate (d := 9) (by omega) hC hS) (fun r1 h1 q1 => ?_)
  obtain ⟨rfl, hC1, hF1⟩ := q1
  have hM1 := hM.fr hF1
  show EL Z G mL_law 10 1045 157302 qT _ [(0, vA Z.1), (1, vA x), (2, vA m), (3, vI i)] [vI ((oMostLate S).1)] _ _ _
  refine l_aload_n 2 dL_law_918 rfl rfl ?_
  refine l_callV [] dL_law_919 kv_L_122 rfl rfl hM1.2.1 (by omega) (Nat.le_of_ble_eq_true rfl) (by omega) (by omega) (k_X10_mostLate (d := 9) (by omega) hM1 hS) (fun r2 h2 q2 => ?_)
  obtain ⟨rfl, hM2, hF2⟩ := q2
  have hC2 := hC1.fr hF2
  show EL Z G mL_law 10 1045 157302 qT _ [(0, vA Z.1), (1, vA x), (2, vA m), (3, vI i)] [vI ((oMostLate S).1), vI ((oMostLate S).1)] _ _ _
  refine l_icmp_eq 1022 dL_law_922 (by decide) (fun _ => ?_) (fun c => absurd rfl c)
  exact EL.wide (by omega) (by omega) (k _ ⟨_, _, _, _, _, _, _, _, _, _, _, _, _, _, _, _, _, _, _, _, _, _, hC2, hM2, (sok_mostLate hS).mono⟩)
set_option maxHeartbeats 4000000 in
theorem lc_keeps {Z : aZ} {G : aG} {x m n : Nat} {i : Int} {kc ks : Nat} {h : aH} (hI : LwI x m n h) (h0 : 0 ≤ i) (h4 : i + 4 ≤ Z.2.1) (hN : Z.2.1 ≤ 2048) (hn : n ≤ 1000) (hc : kc + 2 ≤ 1045) (hs : ks + 265 ≤ 157302) (k : ∀ h' : aH, LwI x m (n + 1) h' → EL Z G mL_law 10 1045 157302 qT 1022 [(0, vA Z.1), (1, vA x), (2, vA m), (3, vI i)] [] h' (kc + 2) (ks + 265)) : EL Z G mL_law 10 1045 157302 qT 927 [(0, vA Z.1), (1, vA x), (2, vA m), (3, vI i)] [] h kc ks := by
  obtain ⟨ac, ar, rr, cr, ta, tm, mk, md, on, ot, lo, hi, b1, b2, b3, b4, b5, b6, b7, b8, b9, S, hC, hM, hS⟩ := hI
  refine l_aload_n 1 dL_law_927 rfl rfl ?_
  refine l_aload_n 0 dL_law_928 rfl rfl ?_
  refine l_iload_n 3 dL_law_929 rfl rfl ?_
  refine l_iconst dL_law_930 (okI_c rfl) ?_
  refine l_iadd dL_law_931 (by unfold okI; omega) ?_
  refine l_sld dL_law_932 (by omega) (by omega) ?_
  refine l_callV [vI (sx Z (i + 1))] dL_law_933 kv_L_123 rfl rfl hC.2.1 (by omega) (Nat.le_of_ble_eq_true rfl) (by omega) (by omega) (k_X9_keeps (d := 9) (by omega) hC hS) (fun r1 h1 q1 => ?_)
  obtain ⟨rfl, hC1, hF1⟩ := q1
  have hM1 := hM.fr hF1
  show EL Z G mL_law 10 1045 157302 qT _ [(0, vA Z.1), (1, vA x), (2, vA m), (3, vI i)] [vI ((oKeeps (sx Z (i + 1)) S).1)] _ _ _
  refine l_aload_n 2 dL_law_936 rfl rfl ?_
  refine l_aload_n 0 dL_law_937 rfl rfl ?_
  refine l_iload_n 3 dL_law_938 rfl rfl ?_
  refine l_iconst dL_law_939 (okI_c rfl) ?_
  refine l_iadd dL_law_940 (by unfold okI; omega) ?_
  refine l_sld dL_law_941 (by omega) (by omega) ?_
  refine l_callV [vI (sx Z (i + 1))] dL_law_942 kv_L_126 rfl rfl hM1.2.1 (by omega) (Nat.le_of_ble_eq_true rfl) (by omega) (by omega) (k_X10_keeps (d := 9) (by omega) hM1 hS) (fun r2 h2 q2 => ?_)
  obtain ⟨rfl, hM2, hF2⟩ := q2
  have hC2 := hC1.fr hF2
  show EL Z G mL_law 10 1045 157302 qT _ [(0, vA Z.1), (1, vA x), (2, vA m), (3, vI i)] [vI ((oKeeps (sx Z (i + 1)) S).1), vI ((oKeeps (sx Z (i + 1)) S).1)] _ _ _
  refine l_icmp_eq 1022 dL_law_945 (by decide) (fun _ => ?_) (fun c => absurd rfl c)
  exact EL.wide (by omega) (by omega) (k _ ⟨_, _, _, _, _, _, _, _, _, _, _, _, _, _, _, _, _, _, _, _, _, _, hC2, hM2, (sok_keeps hS _).mono⟩)
set_option maxHeartbeats 4000000 in
theorem lc_count {Z : aZ} {G : aG} {x m n : Nat} {i : Int} {kc ks : Nat} {h : aH} (hI : LwI x m n h) (h0 : 0 ≤ i) (h4 : i + 4 ≤ Z.2.1) (hN : Z.2.1 ≤ 2048) (hn : n ≤ 1000) (hc : kc + 2 ≤ 1045) (hs : ks + 265 ≤ 157302) (k : ∀ h' : aH, LwI x m (n + 1) h' → EL Z G mL_law 10 1045 157302 qT 1022 [(0, vA Z.1), (1, vA x), (2, vA m), (3, vI i)] [] h' (kc + 2) (ks + 265)) : EL Z G mL_law 10 1045 157302 qT 950 [(0, vA Z.1), (1, vA x), (2, vA m), (3, vI i)] [] h kc ks := by
  obtain ⟨ac, ar, rr, cr, ta, tm, mk, md, on, ot, lo, hi, b1, b2, b3, b4, b5, b6, b7, b8, b9, S, hC, hM, hS⟩ := hI
  refine l_aload_n 1 dL_law_950 rfl rfl ?_
  refine l_aload_n 0 dL_law_951 rfl rfl ?_
  refine l_iload_n 3 dL_law_952 rfl rfl ?_
  refine l_iconst dL_law_953 (okI_c rfl) ?_
  refine l_iadd dL_law_954 (by unfold okI; omega) ?_
  refine l_sld dL_law_955 (by omega) (by omega) ?_
  refine l_callV [vI (sx Z (i + 1))] dL_law_956 kv_L_127 rfl rfl hC.2.1 (by omega) (Nat.le_of_ble_eq_true rfl) (by omega) (by omega) (k_X9_count (d := 9) (by omega) hC hS) (fun r1 h1 q1 => ?_)
  obtain ⟨rfl, hC1, hF1⟩ := q1
  have hM1 := hM.fr hF1
  show EL Z G mL_law 10 1045 157302 qT _ [(0, vA Z.1), (1, vA x), (2, vA m), (3, vI i)] [vI ((oCount (sx Z (i + 1)) S).1)] _ _ _
  refine l_aload_n 2 dL_law_959 rfl rfl ?_
  refine l_aload_n 0 dL_law_960 rfl rfl ?_
  refine l_iload_n 3 dL_law_961 rfl rfl ?_
  refine l_iconst dL_law_962 (okI_c rfl) ?_
  refine l_iadd dL_law_963 (by unfold okI; omega) ?_
  refine l_sld dL_law_964 (by omega) (by omega) ?_
  refine l_callV [vI (sx Z (i + 1))] dL_law_965 kv_L_130 rfl rfl hM1.2.1 (by omega) (Nat.le_of_ble_eq_true rfl) (by omega) (by omega) (k_X10_count (d := 9) (by omega) hM1 hS) (fun r2 h2 q2 => ?_)
  obtain ⟨rfl, hM2, hF2⟩ := q2
  have hC2 := hC1.fr hF2
  show EL Z G mL_law 10 1045 157302 qT _ [(0, vA Z.1), (1, vA x), (2, vA m), (3, vI i)] [vI ((oCount (sx Z (i + 1)) S).1), vI ((oCount (sx Z (i + 1)) S).1)] _ _ _
  refine l_icmp_eq 1022 dL_law_968 (by decide) (fun _ => ?_) (fun c => absurd rfl c)
  exact EL.wide (by omega) (by omega) (k _ ⟨_, _, _, _, _, _, _, _, _, _, _, _, _, _, _, _, _, _, _, _, _, _, hC2, hM2, (sok_count hS _).mono⟩)
set_option maxHeartbeats 4000000 in
theorem lc_trace {Z : aZ} {G : aG} {x m n : Nat} {i : Int} {kc ks : Nat} {h : aH} (hI : LwI x m n h) (h0 : 0 ≤ i) (h4 : i + 4 ≤ Z.2.1) (hN : Z.2.1 ≤ 2048) (hn : n ≤ 1000) (hc : kc + 2 ≤ 1045) (hs : ks + 265 ≤ 157302) (k : ∀ h' : aH, LwI x m (n + 1) h' → EL Z G mL_law 10 1045 157302 qT 1022 [(0, vA Z.1), (1, vA x), (2, vA m), (3, vI i)] [] h' (kc + 2) (ks + 265)) : EL Z G mL_law 10 1045 157302 qT 973 [(0, vA Z.1), (1, vA x), (2, vA m), (3, vI i)] [] h kc ks := by
  obtain ⟨ac, ar, rr, cr, ta, tm, mk, md, on, ot, lo, hi, b1, b2, b3, b4, b5, b6, b7, b8, b9, S, hC, hM, hS⟩ := hI
  refine l_aload_n 1 dL_law_973 rfl rfl ?_
  refine l_aload_n 0 dL_law_974 rfl rfl ?_
  refine l_iload_n 3 dL_law_975 rfl rfl ?_
  refine l_iconst dL_law_976 (okI_c rfl) ?_
  refine l_iadd dL_law_977 (by unfold okI; omega) ?_
  refine l_sld dL_law_978 (by omega) (by omega) ?_
  refine l_callV [vI (sx Z (i + 1))] dL_law_979 kv_L_131 rfl rfl hC.2.1 (by omega) (Nat.le_of_ble_eq_true rfl) (by omega) (by omega) (k_X9_trace (d := 9) (by omega) hC hS) (fun r1 h1 q1 => ?_)
  obtain ⟨rfl, hC1, hF1⟩ := q1
  have hM1 := hM.fr hF1
  show EL Z G mL_law 10 1045 157302 qT _ [(0, vA Z.1), (1, vA x), (2, vA m), (3, vI i)] [vI ((oTrace (sx Z (i + 1)) S).1)] _ _ _
  refine l_aload_n 2 dL_law_982 rfl rfl ?_
  refine l_aload_n 0 dL_law_983 rfl rfl ?_
  refine l_iload_n 3 dL_law_984 rfl rfl ?_
  refine l_iconst dL_law_985 (okI_c rfl) ?_
  refine l_iadd dL_law_986 (by unfold okI; omega) ?_
  refine l_sld dL_law_987 (by omega) (by omega) ?_
  refine l_callV [vI (sx Z (i + 1))] dL_law_988 kv_L_134 rfl rfl hM1.2.1 (by omega) (Nat.le_of_ble_eq_true rfl) (by omega) (by omega) (k_X10_trace (d := 9) (by omega) hM1 hS) (fun r2 h2 q2 => ?_)
  obtain ⟨rfl, hM2, hF2⟩ := q2
  have hC2 := hC1.fr hF2
  show EL Z G mL_law 10 1045 157302 qT _ [(0, vA Z.1), (1, vA x), (2, vA m), (3, vI i)] [vI ((oTrace (sx Z (i + 1)) S).1), vI ((oTrace (sx Z (i + 1)) S).1)] _ _ _
  refine l_icmp_eq 1022 dL_law_991 (by decide) (fun _ => ?_) (fun c => absurd rfl c)
  exact EL.wide (by omega) (by omega) (k _ ⟨_, _, _, _, _, _, _, _, _, _, _, _, _, _, _, _, _, _, _, _, _, _, hC2, hM2, (sok_trace hS _).mono⟩)
set_option maxHeartbeats 4000000 in
theorem lc_status {Z : aZ} {G : aG} {x m n : Nat} {i : Int} {kc ks : Nat} {h : aH} (hI : LwI x m n h) (h0 : 0 ≤ i) (h4 : i + 4 ≤ Z.2.1) (hN : Z.2.1 ≤ 2048) (hn : n ≤ 1000) (hc : kc + 2 ≤ 1045) (hs : ks + 265 ≤ 157302) (k : ∀ h' : aH, LwI x m (n + 1) h' → EL Z G mL_law 10 1045 157302 qT 1022 [(0, vA Z.1), (1, vA x), (2, vA m), (3, vI i)] [] h' (kc + 2) (ks + 265)) : EL Z G mL_law 10 1045 157302 qT 996 [(0, vA Z.1), (1, vA x), (2, vA m), (3, vI i)] [] h kc ks := by
  obtain ⟨ac, ar, rr, cr, ta, tm, mk, md, on, ot, lo, hi, b1, b2, b3, b4, b5, b6, b7, b8, b9, S, hC, hM, hS⟩ := hI
  refine l_aload_n 1 dL_law_996 rfl rfl ?_
  refine l_callV [] dL_law_997 kv_L_135 rfl rfl hC.2.1 (by omega) (Nat.le_of_ble_eq_true rfl) (by omega) (by omega) (k_X9_status (d := 9) hC hS) (fun r1 h1 q1 => ?_)
  obtain ⟨rfl, hC1, hF1⟩ := q1
  have hM1 := hM.fr hF1
  show EL Z G mL_law 10 1045 157302 qT _ [(0, vA Z.1), (1, vA x), (2, vA m), (3, vI i)] [vI ((oStatus S).1)] _ _ _
  refine l_aload_n 2 dL_law_1000 rfl rfl ?_
  refine l_callV [] dL_law_1001 kv_L_138 rfl rfl hM1.2.1 (by omega) (Nat.le_of_ble_eq_true rfl) (by omega) (by omega) (k_X10_status (d := 9) (by omega) hM1 hS) (fun r2 h2 q2 => ?_)
  obtain ⟨rfl, hM2, hF2⟩ := q2
  have hC2 := hC1.fr hF2
  show EL Z G mL_law 10 1045 157302 qT _ [(0, vA Z.1), (1, vA x), (2, vA m), (3, vI i)] [vI ((oStatus S).1), vI ((oStatus S).1)] _ _ _
  refine l_icmp_eq 1022 dL_law_1004 (by decide) (fun _ => ?_) (fun c => absurd rfl c)
  exact EL.wide (by omega) (by omega) (k _ ⟨_, _, _, _, _, _, _, _, _, _, _, _, _, _, _, _, _, _, _, _, _, _, hC2, hM2, (sok_status hS).mono⟩)
set_option maxHeartbeats 4000000 in
theorem lc_clear {Z : aZ} {G : aG} {x m n : Nat} {i : Int} {kc ks : Nat} {h : aH} (hI : LwI x m n h) (h0 : 0 ≤ i) (h4 : i + 4 ≤ Z.2.1) (hN : Z.2.1 ≤ 2048) (hn : n ≤ 1000) (hc : kc + 2 ≤ 1045) (hs : ks + 265 ≤ 157302) (k : ∀ h' : aH, LwI x m (n + 1) h' → EL Z G mL_law 10 1045 157302 qT 1022 [(0, vA Z.1), (1, vA x), (2, vA m), (3, vI i)] [] h' (kc + 2) (ks + 265)) : EL Z G mL_law 10 1045 157302 qT 1009 [(0, vA Z.1), (1, vA x), (2, vA m), (3, vI i)] [] h kc ks := by
  obtain ⟨ac, ar, rr, cr, ta, tm, mk, md, on, ot, lo, hi, b1, b2, b3, b4, b5, b6, b7, b8, b9, S, hC, hM, hS⟩ := hI
  refine l_aload_n 1 dL_law_1009 rfl rfl ?_
  refine l_callV [] dL_law_1010 kv_L_139 rfl rfl hC.2.1 (by omega) (Nat.le_of_ble_eq_true rfl) (by omega) (by omega) (k_X9_clear (d := 9) (by omega) hC hS) (fun r1 h1 q1 => ?_)
  obtain ⟨rfl, hC1, hF1⟩ := q1
  have hM1 := hM.fr hF1
  show EL Z G mL_law 10 1045 157302 qT _ [(0, vA Z.1), (1, vA x), (2, vA m), (3, vI i)] [vI ((oClear S).1)] _ _ _
  refine l_aload_n 2 dL_law_1013 rfl rfl ?_
  refine l_callV [] dL_law_1014 kv_L_142 rfl rfl hM1.2.1 (by omega) (Nat.le_of_ble_eq_true rfl) (by omega) (by omega) (k_X10_clear (d := 9) (by omega) hM1 hS) (fun r2 h2 q2 => ?_)
  obtain ⟨rfl, hM2, hF2⟩ := q2
  have hC2 := hC1.fr hF2
  show EL Z G mL_law 10 1045 157302 qT _ [(0, vA Z.1), (1, vA x), (2, vA m), (3, vI i)] [vI ((oClear S).1), vI ((oClear S).1)] _ _ _
  refine l_icmp_eq 1022 dL_law_1017 (by decide) (fun _ => ?_) (fun c => absurd rfl c)
  exact EL.wide (by omega) (by omega) (k _ ⟨_, _, _, _, _, _, _, _, _, _, _, _, _, _, _, _, _, _, _, _, _, _, hC2, hM2, (sok_clear hS).mono⟩)
