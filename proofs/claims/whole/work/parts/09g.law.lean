set_option maxRecDepth 100000 in
set_option maxHeartbeats 4000000 in
theorem t_mW_law_L18 {X : xX} {B b Ln : Nat} {xs : Nat → Int32} {g : xG} {N : Nat} {K : Nat → Nat × Nat} {F : Nat → Nat → Option Nat} (hX : xO X code "ChangeRowsLaw" 4 B g) (hR : x_R X = room_1) (hr : xLw X B b Ln xs) : ∀ (n : Nat) (I : (Nat → Nat → Int32)) (J : (Nat → Nat → Int64)) (v1 : Nat) (v2 : Nat) (v3 : Int32), mW_law_L18 N K F Ln xs n I J v1 v2 v3 = some (1 : Int32) → xV X B 4 (lw_Z (x_below X) #[Value.ref b] (x_s X)) 148 27838 (xP g B N K I J F) 18 [(0, .ref b), (1, .ref (B + v1)), (2, .ref (B + v2)), (3, .int v3)] [] := by
  intro n
  induction n with
  | zero =>
    intro I J v1 v2 v3 h
    cases h
  | succ n ih =>
    intro I J v1 v2 v3 h
    rw [mW_law_L18] at h
    refine x_iload_n hX dW_law_18 rfl rfl ?_
    refine x_aload_n hX dW_law_19 rfl rfl ?_
    refine x_slen hX hr.1 dW_law_20 ?_
    refine x_bipush (v := 7) hX dW_law_21 (by decide) ?_
    refine x_isub hX dW_law_23 ?_
    refine x_icmp_gt (tgt := 1127) hX dW_law_24 (by decide) (fun hc => ?_) (fun hc => ?_)
    · rw [if_pos hc] at h
      refine x_iconst (v := 1) hX dW_law_1127 (by decide) ?_
      cases h
      exact x_wret hX hR hr (Nat.le_of_ble_eq_true rfl) (Nat.le_of_ble_eq_true rfl) dW_law_1128
    · rw [if_neg hc] at h
      refine x_aload_n hX dW_law_27 rfl rfl ?_
      refine x_iload_n hX dW_law_28 rfl rfl ?_
      obtain ⟨hg1, h⟩ := x_gd h
      refine x_sld hX hr.1 hg1 dW_law_29 ?_
      refine x_bipush (v := 31) hX dW_law_30 (by decide) ?_
      refine x_iand hX dW_law_32 ?_
      by_cases hs1000 : ((xs v3.toNatClampNeg) &&& (31 : Int32)) = 0
      · rw [if_pos hs1000] at h
        refine x_tableIn (off := 123) (tgt := 156) hX dW_law_33 (by rw [hs1000]; decide) (by rw [hs1000]; decide) (by rw [hs1000]; rfl) (by decide) ?_
        refine x_aload_n hX dW_law_156 rfl rfl ?_
        obtain ⟨hg2, h⟩ := x_gd h
        obtain ⟨⟨x3, I4, J5⟩, eb6, h⟩ := x_bd h
        dsimp only at h
        refine x_callVL hX (by rw [hR]; exact ⟨Nat.le_of_ble_eq_true rfl, Nat.le_of_ble_eq_true rfl⟩) (c_m0_clear (l := x_l X) (d := 0) eb6) kXW_13 kN0_clear kE0_clear xc0.1 hg2.1 hg2.2 rfl rfl (Nat.le_of_ble_eq_true rfl) (by rw [hR]; exact ⟨Nat.le_of_ble_eq_true rfl, Nat.le_of_ble_eq_true rfl⟩) dW_law_157 (x_kki ?_)
        refine x_aload_n hX dW_law_160 rfl rfl ?_
        obtain ⟨hg7, h⟩ := x_gd h
        obtain ⟨⟨x8, I9⟩, eb10, h⟩ := x_bd h
        dsimp only at h
        refine x_callVL hX (by rw [hR]; exact ⟨Nat.le_of_ble_eq_true rfl, Nat.le_of_ble_eq_true rfl⟩) (c_m5_clear (l := x_l X) (d := 0) eb10) kXW_17 kN5_clear kE5_clear xc5.1 hg7.1 hg7.2 rfl rfl (Nat.le_of_ble_eq_true rfl) (by rw [hR]; exact ⟨Nat.le_of_ble_eq_true rfl, Nat.le_of_ble_eq_true rfl⟩) dW_law_161 (x_kki ?_)
        refine x_icmp_eq (tgt := 1121) hX dW_law_164 (by decide) (fun hc => ?_) (fun hc => ?_)
        · rw [if_pos hc] at h
          obtain ⟨x11, ex11, h⟩ := x_le h
          refine x_iinc (j := 3) hX [(3, .int x11), (0, .ref b), (1, .ref (B + v1)), (2, .ref (B + v2))] dW_law_1121 rfl (by rw [ex11]; rfl) (by decide) rfl ?_
          refine x_goto (tgt := 18) hX dW_law_1124 (by decide) ?_
          refine x_sub [1, 2, 3, 0] rfl ?_
          exact ih _ _ _ _ _ h
        · rw [if_neg hc] at h
          refine x_iconst (v := 0) hX dW_law_167 (by decide) ?_
          exact absurd (Option.some.inj h) (by decide)
      · rw [if_neg hs1000] at h
        by_cases hs1001 : ((xs v3.toNatClampNeg) &&& (31 : Int32)) = 1
        · rw [if_pos hs1001] at h
          refine x_tableIn (off := 136) (tgt := 169) hX dW_law_33 (by rw [hs1001]; decide) (by rw [hs1001]; decide) (by rw [hs1001]; rfl) (by decide) ?_
          refine x_aload_n hX dW_law_169 rfl rfl ?_
          obtain ⟨hg12, h⟩ := x_gd h
          obtain ⟨⟨x13, I14, J15⟩, eb16, h⟩ := x_bd h
          dsimp only at h
          refine x_callVL hX (by rw [hR]; exact ⟨Nat.le_of_ble_eq_true rfl, Nat.le_of_ble_eq_true rfl⟩) (c_m0_source (l := x_l X) (d := 0) eb16) kXW_18 kN0_source kE0_source xc0.1 hg12.1 hg12.2 rfl rfl (Nat.le_of_ble_eq_true rfl) (by rw [hR]; exact ⟨Nat.le_of_ble_eq_true rfl, Nat.le_of_ble_eq_true rfl⟩) dW_law_170 (x_kki ?_)
          refine x_aload_n hX dW_law_173 rfl rfl ?_
          obtain ⟨hg17, h⟩ := x_gd h
          obtain ⟨⟨x18, I19, J20⟩, eb21, h⟩ := x_bd h
          dsimp only at h
          refine x_callVL hX (by rw [hR]; exact ⟨Nat.le_of_ble_eq_true rfl, Nat.le_of_ble_eq_true rfl⟩) (c_m5_source (l := x_l X) (d := 0) eb21) kXW_21 kN5_source kE5_source xc5.1 hg17.1 hg17.2 rfl rfl (Nat.le_of_ble_eq_true rfl) (by rw [hR]; exact ⟨Nat.le_of_ble_eq_true rfl, Nat.le_of_ble_eq_true rfl⟩) dW_law_174 (x_kki ?_)
          refine x_icmp_eq (tgt := 1121) hX dW_law_177 (by decide) (fun hc => ?_) (fun hc => ?_)
          · rw [if_pos hc] at h
            obtain ⟨x22, ex22, h⟩ := x_le h
            refine x_iinc (j := 3) hX [(3, .int x22), (0, .ref b), (1, .ref (B + v1)), (2, .ref (B + v2))] dW_law_1121 rfl (by rw [ex22]; rfl) (by decide) rfl ?_
            refine x_goto (tgt := 18) hX dW_law_1124 (by decide) ?_
            refine x_sub [1, 2, 3, 0] rfl ?_
            exact ih _ _ _ _ _ h
          · rw [if_neg hc] at h
            refine x_iconst (v := 0) hX dW_law_180 (by decide) ?_
            exact absurd (Option.some.inj h) (by decide)
        · rw [if_neg hs1001] at h
          by_cases hs1002 : ((xs v3.toNatClampNeg) &&& (31 : Int32)) = 2
          · rw [if_pos hs1002] at h
            refine x_tableIn (off := 149) (tgt := 182) hX dW_law_33 (by rw [hs1002]; decide) (by rw [hs1002]; decide) (by rw [hs1002]; rfl) (by decide) ?_
            refine x_aload_n hX dW_law_182 rfl rfl ?_
            refine x_aload_n hX dW_law_183 rfl rfl ?_
            refine x_iload_n hX dW_law_184 rfl rfl ?_
            refine x_iconst (v := 1) hX dW_law_185 (by decide) ?_
            refine x_iadd hX dW_law_186 ?_
            obtain ⟨hg23, h⟩ := x_gd h
            refine x_sld hX hr.1 hg23 dW_law_187 ?_
            refine x_aload_n hX dW_law_188 rfl rfl ?_
            refine x_iload_n hX dW_law_189 rfl rfl ?_
            refine x_iconst (v := 2) hX dW_law_190 (by decide) ?_
            refine x_iadd hX dW_law_191 ?_
            obtain ⟨hg24, h⟩ := x_gd h
            refine x_sld hX hr.1 hg24 dW_law_192 ?_
            refine x_i2l hX dW_law_193 ?_
            refine x_bipush (v := 32) hX dW_law_194 (by decide) ?_
            refine x_lshl hX dW_law_196 ?_
            refine x_aload_n hX dW_law_197 rfl rfl ?_
            refine x_iload_n hX dW_law_198 rfl rfl ?_
            refine x_iconst (v := 3) hX dW_law_199 (by decide) ?_
            refine x_iadd hX dW_law_200 ?_
            obtain ⟨hg25, h⟩ := x_gd h
            refine x_sld hX hr.1 hg25 dW_law_201 ?_
            refine x_i2l hX dW_law_202 ?_
            refine x_ldc2 (v := 4294967295) hX kCW_22 dW_law_203 ?_
            refine x_land hX dW_law_206 ?_
            refine x_lor hX dW_law_207 ?_
            refine x_aload_n hX dW_law_208 rfl rfl ?_
            refine x_iload_n hX dW_law_209 rfl rfl ?_
            refine x_iconst (v := 4) hX dW_law_210 (by decide) ?_
            refine x_iadd hX dW_law_211 ?_
            obtain ⟨hg26, h⟩ := x_gd h
            refine x_sld hX hr.1 hg26 dW_law_212 ?_
            refine x_i2l hX dW_law_213 ?_
            refine x_bipush (v := 32) hX dW_law_214 (by decide) ?_
            refine x_lshl hX dW_law_216 ?_
            refine x_aload_n hX dW_law_217 rfl rfl ?_
            refine x_iload_n hX dW_law_218 rfl rfl ?_
            refine x_iconst (v := 5) hX dW_law_219 (by decide) ?_
            refine x_iadd hX dW_law_220 ?_
            obtain ⟨hg27, h⟩ := x_gd h
            refine x_sld hX hr.1 hg27 dW_law_221 ?_
            refine x_i2l hX dW_law_222 ?_
            refine x_ldc2 (v := 4294967295) hX kCW_22 dW_law_223 ?_
            refine x_land hX dW_law_226 ?_
            refine x_lor hX dW_law_227 ?_
            obtain ⟨hg28, h⟩ := x_gd h
            obtain ⟨⟨x29, I30, J31⟩, eb32, h⟩ := x_bd h
            dsimp only at h
            refine x_callVL hX (by rw [hR]; exact ⟨Nat.le_of_ble_eq_true rfl, Nat.le_of_ble_eq_true rfl⟩) (c_m0_filter (l := x_l X) (d := 0) eb32) kXW_24 kN0_filter kE0_filter xc0.1 hg28.1 hg28.2 rfl rfl (Nat.le_of_ble_eq_true rfl) (by rw [hR]; exact ⟨Nat.le_of_ble_eq_true rfl, Nat.le_of_ble_eq_true rfl⟩) dW_law_228 (x_kki ?_)
            refine x_aload_n hX dW_law_231 rfl rfl ?_
            refine x_aload_n hX dW_law_232 rfl rfl ?_
            refine x_iload_n hX dW_law_233 rfl rfl ?_
            refine x_iconst (v := 1) hX dW_law_234 (by decide) ?_
            refine x_iadd hX dW_law_235 ?_
            refine x_sld hX hr.1 hg23 dW_law_236 ?_
            refine x_aload_n hX dW_law_237 rfl rfl ?_
            refine x_iload_n hX dW_law_238 rfl rfl ?_
            refine x_iconst (v := 2) hX dW_law_239 (by decide) ?_
            refine x_iadd hX dW_law_240 ?_
            refine x_sld hX hr.1 hg24 dW_law_241 ?_
            refine x_i2l hX dW_law_242 ?_
            refine x_bipush (v := 32) hX dW_law_243 (by decide) ?_
            refine x_lshl hX dW_law_245 ?_
            refine x_aload_n hX dW_law_246 rfl rfl ?_
            refine x_iload_n hX dW_law_247 rfl rfl ?_
            refine x_iconst (v := 3) hX dW_law_248 (by decide) ?_
            refine x_iadd hX dW_law_249 ?_
            refine x_sld hX hr.1 hg25 dW_law_250 ?_
            refine x_i2l hX dW_law_251 ?_
            refine x_ldc2 (v := 4294967295) hX kCW_22 dW_law_252 ?_
            refine x_land hX dW_law_255 ?_
            refine x_lor hX dW_law_256 ?_
            refine x_aload_n hX dW_law_257 rfl rfl ?_
            refine x_iload_n hX dW_law_258 rfl rfl ?_
            refine x_iconst (v := 4) hX dW_law_259 (by decide) ?_
            refine x_iadd hX dW_law_260 ?_
            refine x_sld hX hr.1 hg26 dW_law_261 ?_
            refine x_i2l hX dW_law_262 ?_
            refine x_bipush (v := 32) hX dW_law_263 (by decide) ?_
            refine x_lshl hX dW_law_265 ?_
            refine x_aload_n hX dW_law_266 rfl rfl ?_
            refine x_iload_n hX dW_law_267 rfl rfl ?_
            refine x_iconst (v := 5) hX dW_law_268 (by decide) ?_
            refine x_iadd hX dW_law_269 ?_
            refine x_sld hX hr.1 hg27 dW_law_270 ?_
            refine x_i2l hX dW_law_271 ?_
            refine x_ldc2 (v := 4294967295) hX kCW_22 dW_law_272 ?_
            refine x_land hX dW_law_275 ?_
            refine x_lor hX dW_law_276 ?_
            obtain ⟨hg33, h⟩ := x_gd h
            obtain ⟨⟨x34, I35, J36⟩, eb37, h⟩ := x_bd h
            dsimp only at h
            refine x_callVL hX (by rw [hR]; exact ⟨Nat.le_of_ble_eq_true rfl, Nat.le_of_ble_eq_true rfl⟩) (c_m5_filter (l := x_l X) (d := 0) eb37) kXW_28 kN5_filter kE5_filter xc5.1 hg33.1 hg33.2 rfl rfl (Nat.le_of_ble_eq_true rfl) (by rw [hR]; exact ⟨Nat.le_of_ble_eq_true rfl, Nat.le_of_ble_eq_true rfl⟩) dW_law_277 (x_kki ?_)
            refine x_icmp_eq (tgt := 1121) hX dW_law_280 (by decide) (fun hc => ?_) (fun hc => ?_)
            · rw [if_pos hc] at h
              obtain ⟨x38, ex38, h⟩ := x_le h
              refine x_iinc (j := 3) hX [(3, .int x38), (0, .ref b), (1, .ref (B + v1)), (2, .ref (B + v2))] dW_law_1121 rfl (by rw [ex38]; rfl) (by decide) rfl ?_
              refine x_goto (tgt := 18) hX dW_law_1124 (by decide) ?_
              refine x_sub [1, 2, 3, 0] rfl ?_
              exact ih _ _ _ _ _ h
            · rw [if_neg hc] at h
              refine x_iconst (v := 0) hX dW_law_283 (by decide) ?_
              exact absurd (Option.some.inj h) (by decide)
          · rw [if_neg hs1002] at h
            by_cases hs1003 : ((xs v3.toNatClampNeg) &&& (31 : Int32)) = 3
            · rw [if_pos hs1003] at h
              refine x_tableIn (off := 252) (tgt := 285) hX dW_law_33 (by rw [hs1003]; decide) (by rw [hs1003]; decide) (by rw [hs1003]; rfl) (by decide) ?_
              refine x_aload_n hX dW_law_285 rfl rfl ?_
              refine x_aload_n hX dW_law_286 rfl rfl ?_
              refine x_iload_n hX dW_law_287 rfl rfl ?_
              refine x_iconst (v := 1) hX dW_law_288 (by decide) ?_
              refine x_iadd hX dW_law_289 ?_
              obtain ⟨hg39, h⟩ := x_gd h
              refine x_sld hX hr.1 hg39 dW_law_290 ?_
              refine x_aload_n hX dW_law_291 rfl rfl ?_
              refine x_iload_n hX dW_law_292 rfl rfl ?_
              refine x_iconst (v := 2) hX dW_law_293 (by decide) ?_
              refine x_iadd hX dW_law_294 ?_
              obtain ⟨hg40, h⟩ := x_gd h
              refine x_sld hX hr.1 hg40 dW_law_295 ?_
              refine x_aload_n hX dW_law_296 rfl rfl ?_
              refine x_iload_n hX dW_law_297 rfl rfl ?_
              refine x_iconst (v := 3) hX dW_law_298 (by decide) ?_
              refine x_iadd hX dW_law_299 ?_
              obtain ⟨hg41, h⟩ := x_gd h
              refine x_sld hX hr.1 hg41 dW_law_300 ?_
              obtain ⟨hg42, h⟩ := x_gd h
              obtain ⟨⟨x43, I44, J45⟩, eb46, h⟩ := x_bd h
              dsimp only at h
              refine x_callVL hX (by rw [hR]; exact ⟨Nat.le_of_ble_eq_true rfl, Nat.le_of_ble_eq_true rfl⟩) (c_m0_map (l := x_l X) (d := 0) eb46) kXW_29 kN0_map kE0_map xc0.1 hg42.1 hg42.2 rfl rfl (Nat.le_of_ble_eq_true rfl) (by rw [hR]; exact ⟨Nat.le_of_ble_eq_true rfl, Nat.le_of_ble_eq_true rfl⟩) dW_law_301 (x_kki ?_)
              refine x_aload_n hX dW_law_304 rfl rfl ?_
              refine x_aload_n hX dW_law_305 rfl rfl ?_
              refine x_iload_n hX dW_law_306 rfl rfl ?_
              refine x_iconst (v := 1) hX dW_law_307 (by decide) ?_
              refine x_iadd hX dW_law_308 ?_
              refine x_sld hX hr.1 hg39 dW_law_309 ?_
              refine x_aload_n hX dW_law_310 rfl rfl ?_
              refine x_iload_n hX dW_law_311 rfl rfl ?_
              refine x_iconst (v := 2) hX dW_law_312 (by decide) ?_
              refine x_iadd hX dW_law_313 ?_
              refine x_sld hX hr.1 hg40 dW_law_314 ?_
              refine x_aload_n hX dW_law_315 rfl rfl ?_
              refine x_iload_n hX dW_law_316 rfl rfl ?_
              refine x_iconst (v := 3) hX dW_law_317 (by decide) ?_
              refine x_iadd hX dW_law_318 ?_
              refine x_sld hX hr.1 hg41 dW_law_319 ?_
              obtain ⟨hg47, h⟩ := x_gd h
              obtain ⟨⟨x48, I49, J50⟩, eb51, h⟩ := x_bd h
              dsimp only at h
              refine x_callVL hX (by rw [hR]; exact ⟨Nat.le_of_ble_eq_true rfl, Nat.le_of_ble_eq_true rfl⟩) (c_m5_map (l := x_l X) (d := 0) eb51) kXW_33 kN5_map kE5_map xc5.1 hg47.1 hg47.2 rfl rfl (Nat.le_of_ble_eq_true rfl) (by rw [hR]; exact ⟨Nat.le_of_ble_eq_true rfl, Nat.le_of_ble_eq_true rfl⟩) dW_law_320 (x_kki ?_)
              refine x_icmp_eq (tgt := 1121) hX dW_law_323 (by decide) (fun hc => ?_) (fun hc => ?_)
              · rw [if_pos hc] at h
                obtain ⟨x52, ex52, h⟩ := x_le h
                refine x_iinc (j := 3) hX [(3, .int x52), (0, .ref b), (1, .ref (B + v1)), (2, .ref (B + v2))] dW_law_1121 rfl (by rw [ex52]; rfl) (by decide) rfl ?_
                refine x_goto (tgt := 18) hX dW_law_1124 (by decide) ?_
                refine x_sub [1, 2, 3, 0] rfl ?_
                exact ih _ _ _ _ _ h
              · rw [if_neg hc] at h
                refine x_iconst (v := 0) hX dW_law_326 (by decide) ?_
                exact absurd (Option.some.inj h) (by decide)
            · rw [if_neg hs1003] at h
              by_cases hs1004 : ((xs v3.toNatClampNeg) &&& (31 : Int32)) = 4
              · rw [if_pos hs1004] at h
                refine x_tableIn (off := 295) (tgt := 328) hX dW_law_33 (by rw [hs1004]; decide) (by rw [hs1004]; decide) (by rw [hs1004]; rfl) (by decide) ?_
                refine x_aload_n hX dW_law_328 rfl rfl ?_
                refine x_aload_n hX dW_law_329 rfl rfl ?_
                refine x_iload_n hX dW_law_330 rfl rfl ?_
                refine x_iconst (v := 1) hX dW_law_331 (by decide) ?_
                refine x_iadd hX dW_law_332 ?_
                obtain ⟨hg53, h⟩ := x_gd h
                refine x_sld hX hr.1 hg53 dW_law_333 ?_
                refine x_aload_n hX dW_law_334 rfl rfl ?_
                refine x_iload_n hX dW_law_335 rfl rfl ?_
                refine x_iconst (v := 2) hX dW_law_336 (by decide) ?_
                refine x_iadd hX dW_law_337 ?_
                obtain ⟨hg54, h⟩ := x_gd h
                refine x_sld hX hr.1 hg54 dW_law_338 ?_
                refine x_aload_n hX dW_law_339 rfl rfl ?_
                refine x_iload_n hX dW_law_340 rfl rfl ?_
                refine x_iconst (v := 3) hX dW_law_341 (by decide) ?_
                refine x_iadd hX dW_law_342 ?_
                obtain ⟨hg55, h⟩ := x_gd h
                refine x_sld hX hr.1 hg55 dW_law_343 ?_
                obtain ⟨hg56, h⟩ := x_gd h
                obtain ⟨⟨x57, I58, J59⟩, eb60, h⟩ := x_bd h
                dsimp only at h
                refine x_callVL hX (by rw [hR]; exact ⟨Nat.le_of_ble_eq_true rfl, Nat.le_of_ble_eq_true rfl⟩) (c_m0_fold (l := x_l X) (d := 0) eb60) kXW_34 kN0_fold kE0_fold xc0.1 hg56.1 hg56.2 rfl rfl (Nat.le_of_ble_eq_true rfl) (by rw [hR]; exact ⟨Nat.le_of_ble_eq_true rfl, Nat.le_of_ble_eq_true rfl⟩) dW_law_344 (x_kki ?_)
                refine x_aload_n hX dW_law_347 rfl rfl ?_
                refine x_aload_n hX dW_law_348 rfl rfl ?_
                refine x_iload_n hX dW_law_349 rfl rfl ?_
                refine x_iconst (v := 1) hX dW_law_350 (by decide) ?_
                refine x_iadd hX dW_law_351 ?_
                refine x_sld hX hr.1 hg53 dW_law_352 ?_
                refine x_aload_n hX dW_law_353 rfl rfl ?_
                refine x_iload_n hX dW_law_354 rfl rfl ?_
                refine x_iconst (v := 2) hX dW_law_355 (by decide) ?_
                refine x_iadd hX dW_law_356 ?_
                refine x_sld hX hr.1 hg54 dW_law_357 ?_
                refine x_aload_n hX dW_law_358 rfl rfl ?_
                refine x_iload_n hX dW_law_359 rfl rfl ?_
                refine x_iconst (v := 3) hX dW_law_360 (by decide) ?_
                refine x_iadd hX dW_law_361 ?_
                refine x_sld hX hr.1 hg55 dW_law_362 ?_
                obtain ⟨hg61, h⟩ := x_gd h
                obtain ⟨⟨x62, I63, J64⟩, eb65, h⟩ := x_bd h
                dsimp only at h
                refine x_callVL hX (by rw [hR]; exact ⟨Nat.le_of_ble_eq_true rfl, Nat.le_of_ble_eq_true rfl⟩) (c_m5_fold (l := x_l X) (d := 0) eb65) kXW_37 kN5_fold kE5_fold xc5.1 hg61.1 hg61.2 rfl rfl (Nat.le_of_ble_eq_true rfl) (by rw [hR]; exact ⟨Nat.le_of_ble_eq_true rfl, Nat.le_of_ble_eq_true rfl⟩) dW_law_363 (x_kki ?_)
                refine x_icmp_eq (tgt := 1121) hX dW_law_366 (by decide) (fun hc => ?_) (fun hc => ?_)
                · rw [if_pos hc] at h
                  obtain ⟨x66, ex66, h⟩ := x_le h
                  refine x_iinc (j := 3) hX [(3, .int x66), (0, .ref b), (1, .ref (B + v1)), (2, .ref (B + v2))] dW_law_1121 rfl (by rw [ex66]; rfl) (by decide) rfl ?_
                  refine x_goto (tgt := 18) hX dW_law_1124 (by decide) ?_
                  refine x_sub [1, 2, 3, 0] rfl ?_
                  exact ih _ _ _ _ _ h
                · rw [if_neg hc] at h
                  refine x_iconst (v := 0) hX dW_law_369 (by decide) ?_
                  exact absurd (Option.some.inj h) (by decide)
              · rw [if_neg hs1004] at h
                by_cases hs1005 : ((xs v3.toNatClampNeg) &&& (31 : Int32)) = 5
                · rw [if_pos hs1005] at h
                  refine x_tableIn (off := 338) (tgt := 371) hX dW_law_33 (by rw [hs1005]; decide) (by rw [hs1005]; decide) (by rw [hs1005]; rfl) (by decide) ?_
                  refine x_aload_n hX dW_law_371 rfl rfl ?_
                  refine x_aload_n hX dW_law_372 rfl rfl ?_
                  refine x_iload_n hX dW_law_373 rfl rfl ?_
                  refine x_iconst (v := 1) hX dW_law_374 (by decide) ?_
                  refine x_iadd hX dW_law_375 ?_
                  obtain ⟨hg67, h⟩ := x_gd h
                  refine x_sld hX hr.1 hg67 dW_law_376 ?_
                  refine x_aload_n hX dW_law_377 rfl rfl ?_
                  refine x_iload_n hX dW_law_378 rfl rfl ?_
                  refine x_iconst (v := 2) hX dW_law_379 (by decide) ?_
                  refine x_iadd hX dW_law_380 ?_
                  obtain ⟨hg68, h⟩ := x_gd h
                  refine x_sld hX hr.1 hg68 dW_law_381 ?_
                  refine x_aload_n hX dW_law_382 rfl rfl ?_
                  refine x_iload_n hX dW_law_383 rfl rfl ?_
                  refine x_iconst (v := 3) hX dW_law_384 (by decide) ?_
                  refine x_iadd hX dW_law_385 ?_
                  obtain ⟨hg69, h⟩ := x_gd h
                  refine x_sld hX hr.1 hg69 dW_law_386 ?_
                  obtain ⟨hg70, h⟩ := x_gd h
                  obtain ⟨⟨x71, I72, J73⟩, eb74, h⟩ := x_bd h
                  dsimp only at h
                  refine x_callVL hX (by rw [hR]; exact ⟨Nat.le_of_ble_eq_true rfl, Nat.le_of_ble_eq_true rfl⟩) (c_m0_join (l := x_l X) (d := 0) eb74) kXW_38 kN0_join kE0_join xc0.1 hg70.1 hg70.2 rfl rfl (Nat.le_of_ble_eq_true rfl) (by rw [hR]; exact ⟨Nat.le_of_ble_eq_true rfl, Nat.le_of_ble_eq_true rfl⟩) dW_law_387 (x_kki ?_)
                  refine x_aload_n hX dW_law_390 rfl rfl ?_
                  refine x_aload_n hX dW_law_391 rfl rfl ?_
                  refine x_iload_n hX dW_law_392 rfl rfl ?_
                  refine x_iconst (v := 1) hX dW_law_393 (by decide) ?_
                  refine x_iadd hX dW_law_394 ?_
                  refine x_sld hX hr.1 hg67 dW_law_395 ?_
                  refine x_aload_n hX dW_law_396 rfl rfl ?_
                  refine x_iload_n hX dW_law_397 rfl rfl ?_
                  refine x_iconst (v := 2) hX dW_law_398 (by decide) ?_
                  refine x_iadd hX dW_law_399 ?_
                  refine x_sld hX hr.1 hg68 dW_law_400 ?_
                  refine x_aload_n hX dW_law_401 rfl rfl ?_
                  refine x_iload_n hX dW_law_402 rfl rfl ?_
                  refine x_iconst (v := 3) hX dW_law_403 (by decide) ?_
                  refine x_iadd hX dW_law_404 ?_
                  refine x_sld hX hr.1 hg69 dW_law_405 ?_
                  obtain ⟨hg75, h⟩ := x_gd h
                  obtain ⟨⟨x76, I77, J78⟩, eb79, h⟩ := x_bd h
                  dsimp only at h
                  refine x_callVL hX (by rw [hR]; exact ⟨Nat.le_of_ble_eq_true rfl, Nat.le_of_ble_eq_true rfl⟩) (c_m5_join (l := x_l X) (d := 0) eb79) kXW_41 kN5_join kE5_join xc5.1 hg75.1 hg75.2 rfl rfl (Nat.le_of_ble_eq_true rfl) (by rw [hR]; exact ⟨Nat.le_of_ble_eq_true rfl, Nat.le_of_ble_eq_true rfl⟩) dW_law_406 (x_kki ?_)
                  refine x_icmp_eq (tgt := 1121) hX dW_law_409 (by decide) (fun hc => ?_) (fun hc => ?_)
                  · rw [if_pos hc] at h
                    obtain ⟨x80, ex80, h⟩ := x_le h
                    refine x_iinc (j := 3) hX [(3, .int x80), (0, .ref b), (1, .ref (B + v1)), (2, .ref (B + v2))] dW_law_1121 rfl (by rw [ex80]; rfl) (by decide) rfl ?_
                    refine x_goto (tgt := 18) hX dW_law_1124 (by decide) ?_
                    refine x_sub [1, 2, 3, 0] rfl ?_
                    exact ih _ _ _ _ _ h
                  · rw [if_neg hc] at h
                    refine x_iconst (v := 0) hX dW_law_412 (by decide) ?_
                    exact absurd (Option.some.inj h) (by decide)
                · rw [if_neg hs1005] at h
                  by_cases hs1006 : ((xs v3.toNatClampNeg) &&& (31 : Int32)) = 6
                  · rw [if_pos hs1006] at h
                    refine x_tableIn (off := 381) (tgt := 414) hX dW_law_33 (by rw [hs1006]; decide) (by rw [hs1006]; decide) (by rw [hs1006]; rfl) (by decide) ?_
                    refine x_aload_n hX dW_law_414 rfl rfl ?_
                    refine x_aload_n hX dW_law_415 rfl rfl ?_
                    refine x_iload_n hX dW_law_416 rfl rfl ?_
                    refine x_iconst (v := 1) hX dW_law_417 (by decide) ?_
                    refine x_iadd hX dW_law_418 ?_
                    obtain ⟨hg81, h⟩ := x_gd h
                    refine x_sld hX hr.1 hg81 dW_law_419 ?_
                    refine x_aload_n hX dW_law_420 rfl rfl ?_
                    refine x_iload_n hX dW_law_421 rfl rfl ?_
                    refine x_iconst (v := 2) hX dW_law_422 (by decide) ?_
                    refine x_iadd hX dW_law_423 ?_
                    obtain ⟨hg82, h⟩ := x_gd h
                    refine x_sld hX hr.1 hg82 dW_law_424 ?_
                    obtain ⟨hg83, h⟩ := x_gd h
                    obtain ⟨⟨x84, I85, J86⟩, eb87, h⟩ := x_bd h
                    dsimp only at h
                    refine x_callVL hX (by rw [hR]; exact ⟨Nat.le_of_ble_eq_true rfl, Nat.le_of_ble_eq_true rfl⟩) (c_m0_merge (l := x_l X) (d := 0) eb87) kXW_42 kN0_merge kE0_merge xc0.1 hg83.1 hg83.2 rfl rfl (Nat.le_of_ble_eq_true rfl) (by rw [hR]; exact ⟨Nat.le_of_ble_eq_true rfl, Nat.le_of_ble_eq_true rfl⟩) dW_law_425 (x_kki ?_)
                    refine x_aload_n hX dW_law_428 rfl rfl ?_
                    refine x_aload_n hX dW_law_429 rfl rfl ?_
                    refine x_iload_n hX dW_law_430 rfl rfl ?_
                    refine x_iconst (v := 1) hX dW_law_431 (by decide) ?_
                    refine x_iadd hX dW_law_432 ?_
                    refine x_sld hX hr.1 hg81 dW_law_433 ?_
                    refine x_aload_n hX dW_law_434 rfl rfl ?_
                    refine x_iload_n hX dW_law_435 rfl rfl ?_
                    refine x_iconst (v := 2) hX dW_law_436 (by decide) ?_
                    refine x_iadd hX dW_law_437 ?_
                    refine x_sld hX hr.1 hg82 dW_law_438 ?_
                    obtain ⟨hg88, h⟩ := x_gd h
                    obtain ⟨⟨x89, I90, J91⟩, eb92, h⟩ := x_bd h
                    dsimp only at h
                    refine x_callVL hX (by rw [hR]; exact ⟨Nat.le_of_ble_eq_true rfl, Nat.le_of_ble_eq_true rfl⟩) (c_m5_merge (l := x_l X) (d := 0) eb92) kXW_46 kN5_merge kE5_merge xc5.1 hg88.1 hg88.2 rfl rfl (Nat.le_of_ble_eq_true rfl) (by rw [hR]; exact ⟨Nat.le_of_ble_eq_true rfl, Nat.le_of_ble_eq_true rfl⟩) dW_law_439 (x_kki ?_)
                    refine x_icmp_eq (tgt := 1121) hX dW_law_442 (by decide) (fun hc => ?_) (fun hc => ?_)
                    · rw [if_pos hc] at h
                      obtain ⟨x93, ex93, h⟩ := x_le h
                      refine x_iinc (j := 3) hX [(3, .int x93), (0, .ref b), (1, .ref (B + v1)), (2, .ref (B + v2))] dW_law_1121 rfl (by rw [ex93]; rfl) (by decide) rfl ?_
                      refine x_goto (tgt := 18) hX dW_law_1124 (by decide) ?_
                      refine x_sub [1, 2, 3, 0] rfl ?_
                      exact ih _ _ _ _ _ h
                    · rw [if_neg hc] at h
                      refine x_iconst (v := 0) hX dW_law_445 (by decide) ?_
                      exact absurd (Option.some.inj h) (by decide)
                  · rw [if_neg hs1006] at h
                    by_cases hs1007 : ((xs v3.toNatClampNeg) &&& (31 : Int32)) = 7
                    · rw [if_pos hs1007] at h
                      refine x_tableIn (off := 414) (tgt := 447) hX dW_law_33 (by rw [hs1007]; decide) (by rw [hs1007]; decide) (by rw [hs1007]; rfl) (by decide) ?_
                      refine x_aload_n hX dW_law_447 rfl rfl ?_
                      refine x_aload_n hX dW_law_448 rfl rfl ?_
                      refine x_iload_n hX dW_law_449 rfl rfl ?_
                      refine x_iconst (v := 1) hX dW_law_450 (by decide) ?_
                      refine x_iadd hX dW_law_451 ?_
                      obtain ⟨hg94, h⟩ := x_gd h
                      refine x_sld hX hr.1 hg94 dW_law_452 ?_
                      refine x_aload_n hX dW_law_453 rfl rfl ?_
                      refine x_iload_n hX dW_law_454 rfl rfl ?_
                      refine x_iconst (v := 2) hX dW_law_455 (by decide) ?_
                      refine x_iadd hX dW_law_456 ?_
                      obtain ⟨hg95, h⟩ := x_gd h
                      refine x_sld hX hr.1 hg95 dW_law_457 ?_
                      obtain ⟨hg96, h⟩ := x_gd h
                      obtain ⟨⟨x97, I98, J99⟩, eb100, h⟩ := x_bd h
                      dsimp only at h
                      refine x_callVL hX (by rw [hR]; exact ⟨Nat.le_of_ble_eq_true rfl, Nat.le_of_ble_eq_true rfl⟩) (c_m0_best (l := x_l X) (d := 0) eb100) kXW_47 kN0_best kE0_best xc0.1 hg96.1 hg96.2 rfl rfl (Nat.le_of_ble_eq_true rfl) (by rw [hR]; exact ⟨Nat.le_of_ble_eq_true rfl, Nat.le_of_ble_eq_true rfl⟩) dW_law_458 (x_kki ?_)
                      refine x_aload_n hX dW_law_461 rfl rfl ?_
                      refine x_aload_n hX dW_law_462 rfl rfl ?_
                      refine x_iload_n hX dW_law_463 rfl rfl ?_
                      refine x_iconst (v := 1) hX dW_law_464 (by decide) ?_
                      refine x_iadd hX dW_law_465 ?_
                      refine x_sld hX hr.1 hg94 dW_law_466 ?_
                      refine x_aload_n hX dW_law_467 rfl rfl ?_
                      refine x_iload_n hX dW_law_468 rfl rfl ?_
                      refine x_iconst (v := 2) hX dW_law_469 (by decide) ?_
                      refine x_iadd hX dW_law_470 ?_
                      refine x_sld hX hr.1 hg95 dW_law_471 ?_
                      obtain ⟨hg101, h⟩ := x_gd h
                      obtain ⟨⟨x102, I103, J104⟩, eb105, h⟩ := x_bd h
                      dsimp only at h
                      refine x_callVL hX (by rw [hR]; exact ⟨Nat.le_of_ble_eq_true rfl, Nat.le_of_ble_eq_true rfl⟩) (c_m5_best (l := x_l X) (d := 0) eb105) kXW_50 kN5_best kE5_best xc5.1 hg101.1 hg101.2 rfl rfl (Nat.le_of_ble_eq_true rfl) (by rw [hR]; exact ⟨Nat.le_of_ble_eq_true rfl, Nat.le_of_ble_eq_true rfl⟩) dW_law_472 (x_kki ?_)
                      refine x_icmp_eq (tgt := 1121) hX dW_law_475 (by decide) (fun hc => ?_) (fun hc => ?_)
                      · rw [if_pos hc] at h
                        obtain ⟨x106, ex106, h⟩ := x_le h
                        refine x_iinc (j := 3) hX [(3, .int x106), (0, .ref b), (1, .ref (B + v1)), (2, .ref (B + v2))] dW_law_1121 rfl (by rw [ex106]; rfl) (by decide) rfl ?_
                        refine x_goto (tgt := 18) hX dW_law_1124 (by decide) ?_
                        refine x_sub [1, 2, 3, 0] rfl ?_
                        exact ih _ _ _ _ _ h
                      · rw [if_neg hc] at h
                        refine x_iconst (v := 0) hX dW_law_478 (by decide) ?_
                        exact absurd (Option.some.inj h) (by decide)
                    · rw [if_neg hs1007] at h
                      by_cases hs1008 : ((xs v3.toNatClampNeg) &&& (31 : Int32)) = 8
                      · rw [if_pos hs1008] at h
                        refine x_tableIn (off := 447) (tgt := 480) hX dW_law_33 (by rw [hs1008]; decide) (by rw [hs1008]; decide) (by rw [hs1008]; rfl) (by decide) ?_
                        refine x_aload_n hX dW_law_480 rfl rfl ?_
                        refine x_aload_n hX dW_law_481 rfl rfl ?_
                        refine x_iload_n hX dW_law_482 rfl rfl ?_
                        refine x_iconst (v := 1) hX dW_law_483 (by decide) ?_
                        refine x_iadd hX dW_law_484 ?_
                        obtain ⟨hg107, h⟩ := x_gd h
                        refine x_sld hX hr.1 hg107 dW_law_485 ?_
                        refine x_aload_n hX dW_law_486 rfl rfl ?_
                        refine x_iload_n hX dW_law_487 rfl rfl ?_
                        refine x_iconst (v := 2) hX dW_law_488 (by decide) ?_
                        refine x_iadd hX dW_law_489 ?_
                        obtain ⟨hg108, h⟩ := x_gd h
                        refine x_sld hX hr.1 hg108 dW_law_490 ?_
                        obtain ⟨hg109, h⟩ := x_gd h
                        obtain ⟨⟨x110, I111, J112⟩, eb113, h⟩ := x_bd h
                        dsimp only at h
                        refine x_callVL hX (by rw [hR]; exact ⟨Nat.le_of_ble_eq_true rfl, Nat.le_of_ble_eq_true rfl⟩) (c_m0_look (l := x_l X) (d := 0) eb113) kXW_51 kN0_look kE0_look xc0.1 hg109.1 hg109.2 rfl rfl (Nat.le_of_ble_eq_true rfl) (by rw [hR]; exact ⟨Nat.le_of_ble_eq_true rfl, Nat.le_of_ble_eq_true rfl⟩) dW_law_491 (x_kki ?_)
                        refine x_aload_n hX dW_law_494 rfl rfl ?_
                        refine x_aload_n hX dW_law_495 rfl rfl ?_
                        refine x_iload_n hX dW_law_496 rfl rfl ?_
                        refine x_iconst (v := 1) hX dW_law_497 (by decide) ?_
                        refine x_iadd hX dW_law_498 ?_
                        refine x_sld hX hr.1 hg107 dW_law_499 ?_
                        refine x_aload_n hX dW_law_500 rfl rfl ?_
                        refine x_iload_n hX dW_law_501 rfl rfl ?_
                        refine x_iconst (v := 2) hX dW_law_502 (by decide) ?_
                        refine x_iadd hX dW_law_503 ?_
                        refine x_sld hX hr.1 hg108 dW_law_504 ?_
                        obtain ⟨hg114, h⟩ := x_gd h
                        obtain ⟨⟨x115, I116, J117⟩, eb118, h⟩ := x_bd h
                        dsimp only at h
                        refine x_callVL hX (by rw [hR]; exact ⟨Nat.le_of_ble_eq_true rfl, Nat.le_of_ble_eq_true rfl⟩) (c_m5_look (l := x_l X) (d := 0) eb118) kXW_54 kN5_look kE5_look xc5.1 hg114.1 hg114.2 rfl rfl (Nat.le_of_ble_eq_true rfl) (by rw [hR]; exact ⟨Nat.le_of_ble_eq_true rfl, Nat.le_of_ble_eq_true rfl⟩) dW_law_505 (x_kki ?_)
                        refine x_icmp_eq (tgt := 1121) hX dW_law_508 (by decide) (fun hc => ?_) (fun hc => ?_)
                        · rw [if_pos hc] at h
                          obtain ⟨x119, ex119, h⟩ := x_le h
                          refine x_iinc (j := 3) hX [(3, .int x119), (0, .ref b), (1, .ref (B + v1)), (2, .ref (B + v2))] dW_law_1121 rfl (by rw [ex119]; rfl) (by decide) rfl ?_
                          refine x_goto (tgt := 18) hX dW_law_1124 (by decide) ?_
                          refine x_sub [1, 2, 3, 0] rfl ?_
                          exact ih _ _ _ _ _ h
                        · rw [if_neg hc] at h
                          refine x_iconst (v := 0) hX dW_law_511 (by decide) ?_
                          exact absurd (Option.some.inj h) (by decide)
                      · rw [if_neg hs1008] at h
                        by_cases hs1009 : ((xs v3.toNatClampNeg) &&& (31 : Int32)) = 9
                        · rw [if_pos hs1009] at h
                          refine x_tableIn (off := 480) (tgt := 513) hX dW_law_33 (by rw [hs1009]; decide) (by rw [hs1009]; decide) (by rw [hs1009]; rfl) (by decide) ?_
                          refine x_aload_n hX dW_law_513 rfl rfl ?_
                          refine x_aload_n hX dW_law_514 rfl rfl ?_
                          refine x_iload_n hX dW_law_515 rfl rfl ?_
                          refine x_iconst (v := 1) hX dW_law_516 (by decide) ?_
                          refine x_iadd hX dW_law_517 ?_
                          obtain ⟨hg120, h⟩ := x_gd h
                          refine x_sld hX hr.1 hg120 dW_law_518 ?_
                          refine x_aload_n hX dW_law_519 rfl rfl ?_
                          refine x_iload_n hX dW_law_520 rfl rfl ?_
                          refine x_iconst (v := 2) hX dW_law_521 (by decide) ?_
                          refine x_iadd hX dW_law_522 ?_
                          obtain ⟨hg121, h⟩ := x_gd h
                          refine x_sld hX hr.1 hg121 dW_law_523 ?_
                          refine x_aload_n hX dW_law_524 rfl rfl ?_
                          refine x_iload_n hX dW_law_525 rfl rfl ?_
                          refine x_iconst (v := 3) hX dW_law_526 (by decide) ?_
                          refine x_iadd hX dW_law_527 ?_
                          obtain ⟨hg122, h⟩ := x_gd h
                          refine x_sld hX hr.1 hg122 dW_law_528 ?_
                          refine x_i2l hX dW_law_529 ?_
                          refine x_bipush (v := 32) hX dW_law_530 (by decide) ?_
                          refine x_lshl hX dW_law_532 ?_
                          refine x_aload_n hX dW_law_533 rfl rfl ?_
                          refine x_iload_n hX dW_law_534 rfl rfl ?_
                          refine x_iconst (v := 4) hX dW_law_535 (by decide) ?_
                          refine x_iadd hX dW_law_536 ?_
                          obtain ⟨hg123, h⟩ := x_gd h
                          refine x_sld hX hr.1 hg123 dW_law_537 ?_
                          refine x_i2l hX dW_law_538 ?_
                          refine x_ldc2 (v := 4294967295) hX kCW_22 dW_law_539 ?_
                          refine x_land hX dW_law_542 ?_
                          refine x_lor hX dW_law_543 ?_
                          obtain ⟨hg124, h⟩ := x_gd h
                          obtain ⟨⟨x125, I126, J127⟩, eb128, h⟩ := x_bd h
                          dsimp only at h
                          refine x_callVL hX (by rw [hR]; exact ⟨Nat.le_of_ble_eq_true rfl, Nat.le_of_ble_eq_true rfl⟩) (c_m0_put (l := x_l X) (d := 0) eb128) kXW_55 kN0_put kE0_put xc0.1 hg124.1 hg124.2 rfl rfl (Nat.le_of_ble_eq_true rfl) (by rw [hR]; exact ⟨Nat.le_of_ble_eq_true rfl, Nat.le_of_ble_eq_true rfl⟩) dW_law_544 (x_kki ?_)
                          refine x_aload_n hX dW_law_547 rfl rfl ?_
                          refine x_aload_n hX dW_law_548 rfl rfl ?_
                          refine x_iload_n hX dW_law_549 rfl rfl ?_
                          refine x_iconst (v := 1) hX dW_law_550 (by decide) ?_
                          refine x_iadd hX dW_law_551 ?_
                          refine x_sld hX hr.1 hg120 dW_law_552 ?_
                          refine x_aload_n hX dW_law_553 rfl rfl ?_
                          refine x_iload_n hX dW_law_554 rfl rfl ?_
                          refine x_iconst (v := 2) hX dW_law_555 (by decide) ?_
                          refine x_iadd hX dW_law_556 ?_
                          refine x_sld hX hr.1 hg121 dW_law_557 ?_
                          refine x_aload_n hX dW_law_558 rfl rfl ?_
                          refine x_iload_n hX dW_law_559 rfl rfl ?_
                          refine x_iconst (v := 3) hX dW_law_560 (by decide) ?_
                          refine x_iadd hX dW_law_561 ?_
                          refine x_sld hX hr.1 hg122 dW_law_562 ?_
                          refine x_i2l hX dW_law_563 ?_
                          refine x_bipush (v := 32) hX dW_law_564 (by decide) ?_
                          refine x_lshl hX dW_law_566 ?_
                          refine x_aload_n hX dW_law_567 rfl rfl ?_
                          refine x_iload_n hX dW_law_568 rfl rfl ?_
                          refine x_iconst (v := 4) hX dW_law_569 (by decide) ?_
                          refine x_iadd hX dW_law_570 ?_
                          refine x_sld hX hr.1 hg123 dW_law_571 ?_
                          refine x_i2l hX dW_law_572 ?_
                          refine x_ldc2 (v := 4294967295) hX kCW_22 dW_law_573 ?_
                          refine x_land hX dW_law_576 ?_
                          refine x_lor hX dW_law_577 ?_
                          obtain ⟨hg129, h⟩ := x_gd h
                          obtain ⟨⟨x130, I131, J132⟩, eb133, h⟩ := x_bd h
                          dsimp only at h
                          refine x_callVL hX (by rw [hR]; exact ⟨Nat.le_of_ble_eq_true rfl, Nat.le_of_ble_eq_true rfl⟩) (c_m5_put (l := x_l X) (d := 0) eb133) kXW_59 kN5_put kE5_put xc5.1 hg129.1 hg129.2 rfl rfl (Nat.le_of_ble_eq_true rfl) (by rw [hR]; exact ⟨Nat.le_of_ble_eq_true rfl, Nat.le_of_ble_eq_true rfl⟩) dW_law_578 (x_kki ?_)
                          refine x_icmp_eq (tgt := 1121) hX dW_law_581 (by decide) (fun hc => ?_) (fun hc => ?_)
                          · rw [if_pos hc] at h
                            obtain ⟨x134, ex134, h⟩ := x_le h
                            refine x_iinc (j := 3) hX [(3, .int x134), (0, .ref b), (1, .ref (B + v1)), (2, .ref (B + v2))] dW_law_1121 rfl (by rw [ex134]; rfl) (by decide) rfl ?_
                            refine x_goto (tgt := 18) hX dW_law_1124 (by decide) ?_
                            refine x_sub [1, 2, 3, 0] rfl ?_
                            exact ih _ _ _ _ _ h
                          · rw [if_neg hc] at h
                            refine x_iconst (v := 0) hX dW_law_584 (by decide) ?_
                            exact absurd (Option.some.inj h) (by decide)
                        · rw [if_neg hs1009] at h
                          by_cases hs1010 : ((xs v3.toNatClampNeg) &&& (31 : Int32)) = 10
                          · rw [if_pos hs1010] at h
                            refine x_tableIn (off := 553) (tgt := 586) hX dW_law_33 (by rw [hs1010]; decide) (by rw [hs1010]; decide) (by rw [hs1010]; rfl) (by decide) ?_
                            refine x_aload_n hX dW_law_586 rfl rfl ?_
                            refine x_aload_n hX dW_law_587 rfl rfl ?_
                            refine x_iload_n hX dW_law_588 rfl rfl ?_
                            refine x_iconst (v := 1) hX dW_law_589 (by decide) ?_
                            refine x_iadd hX dW_law_590 ?_
                            obtain ⟨hg135, h⟩ := x_gd h
                            refine x_sld hX hr.1 hg135 dW_law_591 ?_
                            refine x_aload_n hX dW_law_592 rfl rfl ?_
                            refine x_iload_n hX dW_law_593 rfl rfl ?_
                            refine x_iconst (v := 2) hX dW_law_594 (by decide) ?_
                            refine x_iadd hX dW_law_595 ?_
                            obtain ⟨hg136, h⟩ := x_gd h
                            refine x_sld hX hr.1 hg136 dW_law_596 ?_
                            obtain ⟨hg137, h⟩ := x_gd h
                            obtain ⟨⟨x138, I139, J140⟩, eb141, h⟩ := x_bd h
                            dsimp only at h
                            refine x_callVL hX (by rw [hR]; exact ⟨Nat.le_of_ble_eq_true rfl, Nat.le_of_ble_eq_true rfl⟩) (c_m0_remove (l := x_l X) (d := 0) eb141) kXW_60 kN0_remove kE0_remove xc0.1 hg137.1 hg137.2 rfl rfl (Nat.le_of_ble_eq_true rfl) (by rw [hR]; exact ⟨Nat.le_of_ble_eq_true rfl, Nat.le_of_ble_eq_true rfl⟩) dW_law_597 (x_kki ?_)
                            refine x_aload_n hX dW_law_600 rfl rfl ?_
                            refine x_aload_n hX dW_law_601 rfl rfl ?_
                            refine x_iload_n hX dW_law_602 rfl rfl ?_
                            refine x_iconst (v := 1) hX dW_law_603 (by decide) ?_
                            refine x_iadd hX dW_law_604 ?_
                            refine x_sld hX hr.1 hg135 dW_law_605 ?_
                            refine x_aload_n hX dW_law_606 rfl rfl ?_
                            refine x_iload_n hX dW_law_607 rfl rfl ?_
                            refine x_iconst (v := 2) hX dW_law_608 (by decide) ?_
                            refine x_iadd hX dW_law_609 ?_
                            refine x_sld hX hr.1 hg136 dW_law_610 ?_
                            obtain ⟨hg142, h⟩ := x_gd h
                            obtain ⟨⟨x143, I144, J145⟩, eb146, h⟩ := x_bd h
                            dsimp only at h
                            refine x_callVL hX (by rw [hR]; exact ⟨Nat.le_of_ble_eq_true rfl, Nat.le_of_ble_eq_true rfl⟩) (c_m5_remove (l := x_l X) (d := 0) eb146) kXW_63 kN5_remove kE5_remove xc5.1 hg142.1 hg142.2 rfl rfl (Nat.le_of_ble_eq_true rfl) (by rw [hR]; exact ⟨Nat.le_of_ble_eq_true rfl, Nat.le_of_ble_eq_true rfl⟩) dW_law_611 (x_kki ?_)
                            refine x_icmp_eq (tgt := 1121) hX dW_law_614 (by decide) (fun hc => ?_) (fun hc => ?_)
                            · rw [if_pos hc] at h
                              obtain ⟨x147, ex147, h⟩ := x_le h
                              refine x_iinc (j := 3) hX [(3, .int x147), (0, .ref b), (1, .ref (B + v1)), (2, .ref (B + v2))] dW_law_1121 rfl (by rw [ex147]; rfl) (by decide) rfl ?_
                              refine x_goto (tgt := 18) hX dW_law_1124 (by decide) ?_
                              refine x_sub [1, 2, 3, 0] rfl ?_
                              exact ih _ _ _ _ _ h
                            · rw [if_neg hc] at h
                              refine x_iconst (v := 0) hX dW_law_617 (by decide) ?_
                              exact absurd (Option.some.inj h) (by decide)
                          · rw [if_neg hs1010] at h
                            by_cases hs1011 : ((xs v3.toNatClampNeg) &&& (31 : Int32)) = 11
                            · rw [if_pos hs1011] at h
                              refine x_tableIn (off := 586) (tgt := 619) hX dW_law_33 (by rw [hs1011]; decide) (by rw [hs1011]; decide) (by rw [hs1011]; rfl) (by decide) ?_
                              refine x_aload_n hX dW_law_619 rfl rfl ?_
                              obtain ⟨hg148, h⟩ := x_gd h
                              obtain ⟨⟨x149, I150⟩, eb151, h⟩ := x_bd h
                              dsimp only at h
                              refine x_callVL hX (by rw [hR]; exact ⟨Nat.le_of_ble_eq_true rfl, Nat.le_of_ble_eq_true rfl⟩) (c_m0_begin (l := x_l X) (d := 0) eb151) kXW_64 kN0_begin kE0_begin xc0.1 hg148.1 hg148.2 rfl rfl (Nat.le_of_ble_eq_true rfl) (by rw [hR]; exact ⟨Nat.le_of_ble_eq_true rfl, Nat.le_of_ble_eq_true rfl⟩) dW_law_620 (x_kki ?_)
                              refine x_aload_n hX dW_law_623 rfl rfl ?_
                              obtain ⟨hg152, h⟩ := x_gd h
                              obtain ⟨⟨x153, I154⟩, eb155, h⟩ := x_bd h
                              dsimp only at h
                              refine x_callVL hX (by rw [hR]; exact ⟨Nat.le_of_ble_eq_true rfl, Nat.le_of_ble_eq_true rfl⟩) (c_m5_begin (l := x_l X) (d := 0) eb155) kXW_67 kN5_begin kE5_begin xc5.1 hg152.1 hg152.2 rfl rfl (Nat.le_of_ble_eq_true rfl) (by rw [hR]; exact ⟨Nat.le_of_ble_eq_true rfl, Nat.le_of_ble_eq_true rfl⟩) dW_law_624 (x_kki ?_)
                              refine x_icmp_eq (tgt := 1121) hX dW_law_627 (by decide) (fun hc => ?_) (fun hc => ?_)
                              · rw [if_pos hc] at h
                                obtain ⟨x156, ex156, h⟩ := x_le h
                                refine x_iinc (j := 3) hX [(3, .int x156), (0, .ref b), (1, .ref (B + v1)), (2, .ref (B + v2))] dW_law_1121 rfl (by rw [ex156]; rfl) (by decide) rfl ?_
                                refine x_goto (tgt := 18) hX dW_law_1124 (by decide) ?_
                                refine x_sub [1, 2, 3, 0] rfl ?_
                                exact ih _ _ _ _ _ h
                              · rw [if_neg hc] at h
                                refine x_iconst (v := 0) hX dW_law_630 (by decide) ?_
                                exact absurd (Option.some.inj h) (by decide)
                            · rw [if_neg hs1011] at h
                              by_cases hs1012 : ((xs v3.toNatClampNeg) &&& (31 : Int32)) = 12
                              · rw [if_pos hs1012] at h
                                refine x_tableIn (off := 599) (tgt := 632) hX dW_law_33 (by rw [hs1012]; decide) (by rw [hs1012]; decide) (by rw [hs1012]; rfl) (by decide) ?_
                                refine x_aload_n hX dW_law_632 rfl rfl ?_
                                obtain ⟨hg157, h⟩ := x_gd h
                                obtain ⟨⟨x158, I159, J160⟩, eb161, h⟩ := x_bd h
                                dsimp only at h
                                refine x_callVL hX (by rw [hR]; exact ⟨Nat.le_of_ble_eq_true rfl, Nat.le_of_ble_eq_true rfl⟩) (c_m0_end (l := x_l X) (d := 0) eb161) kXW_68 kN0_end kE0_end xc0.1 hg157.1 hg157.2 rfl rfl (Nat.le_of_ble_eq_true rfl) (by rw [hR]; exact ⟨Nat.le_of_ble_eq_true rfl, Nat.le_of_ble_eq_true rfl⟩) dW_law_633 (x_kki ?_)
                                refine x_aload_n hX dW_law_636 rfl rfl ?_
                                obtain ⟨hg162, h⟩ := x_gd h
                                obtain ⟨⟨x163, I164, J165⟩, eb166, h⟩ := x_bd h
                                dsimp only at h
                                refine x_callVL hX (by rw [hR]; exact ⟨Nat.le_of_ble_eq_true rfl, Nat.le_of_ble_eq_true rfl⟩) (c_m5_end (l := x_l X) (d := 0) eb166) kXW_71 kN5_end kE5_end xc5.1 hg162.1 hg162.2 rfl rfl (Nat.le_of_ble_eq_true rfl) (by rw [hR]; exact ⟨Nat.le_of_ble_eq_true rfl, Nat.le_of_ble_eq_true rfl⟩) dW_law_637 (x_kki ?_)
                                refine x_icmp_eq (tgt := 1121) hX dW_law_640 (by decide) (fun hc => ?_) (fun hc => ?_)
                                · rw [if_pos hc] at h
                                  obtain ⟨x167, ex167, h⟩ := x_le h
                                  refine x_iinc (j := 3) hX [(3, .int x167), (0, .ref b), (1, .ref (B + v1)), (2, .ref (B + v2))] dW_law_1121 rfl (by rw [ex167]; rfl) (by decide) rfl ?_
                                  refine x_goto (tgt := 18) hX dW_law_1124 (by decide) ?_
                                  refine x_sub [1, 2, 3, 0] rfl ?_
                                  exact ih _ _ _ _ _ h
                                · rw [if_neg hc] at h
                                  refine x_iconst (v := 0) hX dW_law_643 (by decide) ?_
                                  exact absurd (Option.some.inj h) (by decide)
                              · rw [if_neg hs1012] at h
                                by_cases hs1013 : ((xs v3.toNatClampNeg) &&& (31 : Int32)) = 13
                                · rw [if_pos hs1013] at h
                                  refine x_tableIn (off := 612) (tgt := 645) hX dW_law_33 (by rw [hs1013]; decide) (by rw [hs1013]; decide) (by rw [hs1013]; rfl) (by decide) ?_
                                  refine x_aload_n hX dW_law_645 rfl rfl ?_
                                  obtain ⟨hg168, h⟩ := x_gd h
                                  obtain ⟨⟨x169, I170⟩, eb171, h⟩ := x_bd h
                                  dsimp only at h
                                  refine x_callVL hX (by rw [hR]; exact ⟨Nat.le_of_ble_eq_true rfl, Nat.le_of_ble_eq_true rfl⟩) (c_m0_drop (l := x_l X) (d := 0) eb171) kXW_72 kN0_drop kE0_drop xc0.1 hg168.1 hg168.2 rfl rfl (Nat.le_of_ble_eq_true rfl) (by rw [hR]; exact ⟨Nat.le_of_ble_eq_true rfl, Nat.le_of_ble_eq_true rfl⟩) dW_law_646 (x_kki ?_)
                                  refine x_aload_n hX dW_law_649 rfl rfl ?_
                                  obtain ⟨hg172, h⟩ := x_gd h
                                  obtain ⟨⟨x173, I174⟩, eb175, h⟩ := x_bd h
                                  dsimp only at h
                                  refine x_callVL hX (by rw [hR]; exact ⟨Nat.le_of_ble_eq_true rfl, Nat.le_of_ble_eq_true rfl⟩) (c_m5_drop (l := x_l X) (d := 0) eb175) kXW_75 kN5_drop kE5_drop xc5.1 hg172.1 hg172.2 rfl rfl (Nat.le_of_ble_eq_true rfl) (by rw [hR]; exact ⟨Nat.le_of_ble_eq_true rfl, Nat.le_of_ble_eq_true rfl⟩) dW_law_650 (x_kki ?_)
                                  refine x_icmp_eq (tgt := 1121) hX dW_law_653 (by decide) (fun hc => ?_) (fun hc => ?_)
                                  · rw [if_pos hc] at h
                                    obtain ⟨x176, ex176, h⟩ := x_le h
                                    refine x_iinc (j := 3) hX [(3, .int x176), (0, .ref b), (1, .ref (B + v1)), (2, .ref (B + v2))] dW_law_1121 rfl (by rw [ex176]; rfl) (by decide) rfl ?_
                                    refine x_goto (tgt := 18) hX dW_law_1124 (by decide) ?_
                                    refine x_sub [1, 2, 3, 0] rfl ?_
                                    exact ih _ _ _ _ _ h
                                  · rw [if_neg hc] at h
                                    refine x_iconst (v := 0) hX dW_law_656 (by decide) ?_
                                    exact absurd (Option.some.inj h) (by decide)
                                · rw [if_neg hs1013] at h
                                  by_cases hs1014 : ((xs v3.toNatClampNeg) &&& (31 : Int32)) = 14
                                  · rw [if_pos hs1014] at h
                                    refine x_tableIn (off := 625) (tgt := 658) hX dW_law_33 (by rw [hs1014]; decide) (by rw [hs1014]; decide) (by rw [hs1014]; rfl) (by decide) ?_
                                    refine x_aload_n hX dW_law_658 rfl rfl ?_
                                    obtain ⟨hg177, h⟩ := x_gd h
                                    obtain ⟨x178, eb179, h⟩ := x_bd h
                                    refine x_callVL hX (by rw [hR]; exact ⟨Nat.le_of_ble_eq_true rfl, Nat.le_of_ble_eq_true rfl⟩) (c_m0_told (l := x_l X) (d := 0) eb179) kXW_76 kN0_told kE0_told xc0.1 hg177.1 hg177.2 rfl rfl (Nat.le_of_ble_eq_true rfl) (by rw [hR]; exact ⟨Nat.le_of_ble_eq_true rfl, Nat.le_of_ble_eq_true rfl⟩) dW_law_659 (x_kki ?_)
                                    refine x_aload_n hX dW_law_662 rfl rfl ?_
                                    obtain ⟨hg180, h⟩ := x_gd h
                                    obtain ⟨x181, eb182, h⟩ := x_bd h
                                    refine x_callVL hX (by rw [hR]; exact ⟨Nat.le_of_ble_eq_true rfl, Nat.le_of_ble_eq_true rfl⟩) (c_m5_told (l := x_l X) (d := 0) eb182) kXW_79 kN5_told kE5_told xc5.1 hg180.1 hg180.2 rfl rfl (Nat.le_of_ble_eq_true rfl) (by rw [hR]; exact ⟨Nat.le_of_ble_eq_true rfl, Nat.le_of_ble_eq_true rfl⟩) dW_law_663 (x_kki ?_)
                                    refine x_icmp_eq (tgt := 1121) hX dW_law_666 (by decide) (fun hc => ?_) (fun hc => ?_)
                                    · rw [if_pos hc] at h
                                      obtain ⟨x183, ex183, h⟩ := x_le h
                                      refine x_iinc (j := 3) hX [(3, .int x183), (0, .ref b), (1, .ref (B + v1)), (2, .ref (B + v2))] dW_law_1121 rfl (by rw [ex183]; rfl) (by decide) rfl ?_
                                      refine x_goto (tgt := 18) hX dW_law_1124 (by decide) ?_
                                      refine x_sub [1, 2, 3, 0] rfl ?_
                                      exact ih _ _ _ _ _ h
                                    · rw [if_neg hc] at h
                                      refine x_iconst (v := 0) hX dW_law_669 (by decide) ?_
                                      exact absurd (Option.some.inj h) (by decide)
                                  · rw [if_neg hs1014] at h
                                    by_cases hs1015 : ((xs v3.toNatClampNeg) &&& (31 : Int32)) = 15
                                    · rw [if_pos hs1015] at h
                                      refine x_tableIn (off := 638) (tgt := 671) hX dW_law_33 (by rw [hs1015]; decide) (by rw [hs1015]; decide) (by rw [hs1015]; rfl) (by decide) ?_
                                      refine x_aload_n hX dW_law_671 rfl rfl ?_
                                      refine x_aload_n hX dW_law_672 rfl rfl ?_
                                      refine x_iload_n hX dW_law_673 rfl rfl ?_
                                      refine x_iconst (v := 1) hX dW_law_674 (by decide) ?_
                                      refine x_iadd hX dW_law_675 ?_
                                      obtain ⟨hg184, h⟩ := x_gd h
                                      refine x_sld hX hr.1 hg184 dW_law_676 ?_
                                      refine x_aload_n hX dW_law_677 rfl rfl ?_
                                      refine x_iload_n hX dW_law_678 rfl rfl ?_
                                      refine x_iconst (v := 2) hX dW_law_679 (by decide) ?_
                                      refine x_iadd hX dW_law_680 ?_
                                      obtain ⟨hg185, h⟩ := x_gd h
                                      refine x_sld hX hr.1 hg185 dW_law_681 ?_
                                      refine x_aload_n hX dW_law_682 rfl rfl ?_
                                      refine x_iload_n hX dW_law_683 rfl rfl ?_
                                      refine x_iconst (v := 3) hX dW_law_684 (by decide) ?_
                                      refine x_iadd hX dW_law_685 ?_
                                      obtain ⟨hg186, h⟩ := x_gd h
                                      refine x_sld hX hr.1 hg186 dW_law_686 ?_
                                      obtain ⟨hg187, h⟩ := x_gd h
                                      obtain ⟨x188, eb189, h⟩ := x_bd h
                                      refine x_callVL hX (by rw [hR]; exact ⟨Nat.le_of_ble_eq_true rfl, Nat.le_of_ble_eq_true rfl⟩) (c_m0_change (l := x_l X) (d := 0) eb189) kXW_80 kN0_change kE0_change xc0.1 hg187.1 hg187.2 rfl rfl (Nat.le_of_ble_eq_true rfl) (by rw [hR]; exact ⟨Nat.le_of_ble_eq_true rfl, Nat.le_of_ble_eq_true rfl⟩) dW_law_687 (x_kki ?_)
                                      refine x_aload_n hX dW_law_690 rfl rfl ?_
                                      refine x_aload_n hX dW_law_691 rfl rfl ?_
                                      refine x_iload_n hX dW_law_692 rfl rfl ?_
                                      refine x_iconst (v := 1) hX dW_law_693 (by decide) ?_
                                      refine x_iadd hX dW_law_694 ?_
                                      refine x_sld hX hr.1 hg184 dW_law_695 ?_
                                      refine x_aload_n hX dW_law_696 rfl rfl ?_
                                      refine x_iload_n hX dW_law_697 rfl rfl ?_
                                      refine x_iconst (v := 2) hX dW_law_698 (by decide) ?_
                                      refine x_iadd hX dW_law_699 ?_
                                      refine x_sld hX hr.1 hg185 dW_law_700 ?_
                                      refine x_aload_n hX dW_law_701 rfl rfl ?_
                                      refine x_iload_n hX dW_law_702 rfl rfl ?_
                                      refine x_iconst (v := 3) hX dW_law_703 (by decide) ?_
                                      refine x_iadd hX dW_law_704 ?_
                                      refine x_sld hX hr.1 hg186 dW_law_705 ?_
                                      obtain ⟨hg190, h⟩ := x_gd h
                                      obtain ⟨x191, eb192, h⟩ := x_bd h
                                      refine x_callVL hX (by rw [hR]; exact ⟨Nat.le_of_ble_eq_true rfl, Nat.le_of_ble_eq_true rfl⟩) (c_m5_change (l := x_l X) (d := 0) eb192) kXW_83 kN5_change kE5_change xc5.1 hg190.1 hg190.2 rfl rfl (Nat.le_of_ble_eq_true rfl) (by rw [hR]; exact ⟨Nat.le_of_ble_eq_true rfl, Nat.le_of_ble_eq_true rfl⟩) dW_law_706 (x_kki ?_)
                                      refine x_icmp_eq (tgt := 1121) hX dW_law_709 (by decide) (fun hc => ?_) (fun hc => ?_)
                                      · rw [if_pos hc] at h
                                        obtain ⟨x193, ex193, h⟩ := x_le h
                                        refine x_iinc (j := 3) hX [(3, .int x193), (0, .ref b), (1, .ref (B + v1)), (2, .ref (B + v2))] dW_law_1121 rfl (by rw [ex193]; rfl) (by decide) rfl ?_
                                        refine x_goto (tgt := 18) hX dW_law_1124 (by decide) ?_
                                        refine x_sub [1, 2, 3, 0] rfl ?_
                                        exact ih _ _ _ _ _ h
                                      · rw [if_neg hc] at h
                                        refine x_iconst (v := 0) hX dW_law_712 (by decide) ?_
                                        exact absurd (Option.some.inj h) (by decide)
                                    · rw [if_neg hs1015] at h
                                      by_cases hs1016 : ((xs v3.toNatClampNeg) &&& (31 : Int32)) = 16
                                      · rw [if_pos hs1016] at h
                                        refine x_tableIn (off := 681) (tgt := 714) hX dW_law_33 (by rw [hs1016]; decide) (by rw [hs1016]; decide) (by rw [hs1016]; rfl) (by decide) ?_
                                        refine x_aload_n hX dW_law_714 rfl rfl ?_
                                        refine x_aload_n hX dW_law_715 rfl rfl ?_
                                        refine x_iload_n hX dW_law_716 rfl rfl ?_
                                        refine x_iconst (v := 1) hX dW_law_717 (by decide) ?_
                                        refine x_iadd hX dW_law_718 ?_
                                        obtain ⟨hg194, h⟩ := x_gd h
                                        refine x_sld hX hr.1 hg194 dW_law_719 ?_
                                        refine x_aload_n hX dW_law_720 rfl rfl ?_
                                        refine x_iload_n hX dW_law_721 rfl rfl ?_
                                        refine x_iconst (v := 2) hX dW_law_722 (by decide) ?_
                                        refine x_iadd hX dW_law_723 ?_
                                        obtain ⟨hg195, h⟩ := x_gd h
                                        refine x_sld hX hr.1 hg195 dW_law_724 ?_
                                        refine x_aload_n hX dW_law_725 rfl rfl ?_
                                        refine x_iload_n hX dW_law_726 rfl rfl ?_
                                        refine x_iconst (v := 3) hX dW_law_727 (by decide) ?_
                                        refine x_iadd hX dW_law_728 ?_
                                        obtain ⟨hg196, h⟩ := x_gd h
                                        refine x_sld hX hr.1 hg196 dW_law_729 ?_
                                        obtain ⟨hg197, h⟩ := x_gd h
                                        obtain ⟨x198, eb199, h⟩ := x_bd h
                                        refine x_callVL hX (by rw [hR]; exact ⟨Nat.le_of_ble_eq_true rfl, Nat.le_of_ble_eq_true rfl⟩) (c_m0_value (l := x_l X) (d := 0) eb199) kXW_84 kN0_value kE0_value xc0.1 hg197.1 hg197.2 rfl rfl (Nat.le_of_ble_eq_true rfl) (by rw [hR]; exact ⟨Nat.le_of_ble_eq_true rfl, Nat.le_of_ble_eq_true rfl⟩) dW_law_730 (x_kkl ?_)
                                        refine x_aload_n hX dW_law_733 rfl rfl ?_
                                        refine x_aload_n hX dW_law_734 rfl rfl ?_
                                        refine x_iload_n hX dW_law_735 rfl rfl ?_
                                        refine x_iconst (v := 1) hX dW_law_736 (by decide) ?_
                                        refine x_iadd hX dW_law_737 ?_
                                        refine x_sld hX hr.1 hg194 dW_law_738 ?_
                                        refine x_aload_n hX dW_law_739 rfl rfl ?_
                                        refine x_iload_n hX dW_law_740 rfl rfl ?_
                                        refine x_iconst (v := 2) hX dW_law_741 (by decide) ?_
                                        refine x_iadd hX dW_law_742 ?_
                                        refine x_sld hX hr.1 hg195 dW_law_743 ?_
                                        refine x_aload_n hX dW_law_744 rfl rfl ?_
                                        refine x_iload_n hX dW_law_745 rfl rfl ?_
                                        refine x_iconst (v := 3) hX dW_law_746 (by decide) ?_
                                        refine x_iadd hX dW_law_747 ?_
                                        refine x_sld hX hr.1 hg196 dW_law_748 ?_
                                        obtain ⟨hg200, h⟩ := x_gd h
                                        obtain ⟨x201, eb202, h⟩ := x_bd h
                                        refine x_callVL hX (by rw [hR]; exact ⟨Nat.le_of_ble_eq_true rfl, Nat.le_of_ble_eq_true rfl⟩) (c_m5_value (l := x_l X) (d := 0) eb202) kXW_88 kN5_value kE5_value xc5.1 hg200.1 hg200.2 rfl rfl (Nat.le_of_ble_eq_true rfl) (by rw [hR]; exact ⟨Nat.le_of_ble_eq_true rfl, Nat.le_of_ble_eq_true rfl⟩) dW_law_749 (x_kkl ?_)
                                        refine x_lif_eq (tgt := 1121) hX dW_law_752 dW_law_753 (by decide) (fun hc => ?_) (fun hc => ?_)
                                        · rw [if_pos hc] at h
                                          obtain ⟨x203, ex203, h⟩ := x_le h
                                          refine x_iinc (j := 3) hX [(3, .int x203), (0, .ref b), (1, .ref (B + v1)), (2, .ref (B + v2))] dW_law_1121 rfl (by rw [ex203]; rfl) (by decide) rfl ?_
                                          refine x_goto (tgt := 18) hX dW_law_1124 (by decide) ?_
                                          refine x_sub [1, 2, 3, 0] rfl ?_
                                          exact ih _ _ _ _ _ h
                                        · rw [if_neg hc] at h
                                          refine x_iconst (v := 0) hX dW_law_756 (by decide) ?_
                                          exact absurd (Option.some.inj h) (by decide)
                                      · rw [if_neg hs1016] at h
                                        by_cases hs1017 : ((xs v3.toNatClampNeg) &&& (31 : Int32)) = 17
                                        · rw [if_pos hs1017] at h
                                          refine x_tableIn (off := 725) (tgt := 758) hX dW_law_33 (by rw [hs1017]; decide) (by rw [hs1017]; decide) (by rw [hs1017]; rfl) (by decide) ?_
                                          refine x_aload_n hX dW_law_758 rfl rfl ?_
                                          obtain ⟨hg204, h⟩ := x_gd h
                                          obtain ⟨x205, eb206, h⟩ := x_bd h
                                          refine x_callVL hX (by rw [hR]; exact ⟨Nat.le_of_ble_eq_true rfl, Nat.le_of_ble_eq_true rfl⟩) (c_m0_logged (l := x_l X) (d := 0) eb206) kXW_89 kN0_logged kE0_logged xc0.1 hg204.1 hg204.2 rfl rfl (Nat.le_of_ble_eq_true rfl) (by rw [hR]; exact ⟨Nat.le_of_ble_eq_true rfl, Nat.le_of_ble_eq_true rfl⟩) dW_law_759 (x_kki ?_)
                                          refine x_aload_n hX dW_law_762 rfl rfl ?_
                                          obtain ⟨hg207, h⟩ := x_gd h
                                          obtain ⟨x208, eb209, h⟩ := x_bd h
                                          refine x_callVL hX (by rw [hR]; exact ⟨Nat.le_of_ble_eq_true rfl, Nat.le_of_ble_eq_true rfl⟩) (c_m5_logged (l := x_l X) (d := 0) eb209) kXW_92 kN5_logged kE5_logged xc5.1 hg207.1 hg207.2 rfl rfl (Nat.le_of_ble_eq_true rfl) (by rw [hR]; exact ⟨Nat.le_of_ble_eq_true rfl, Nat.le_of_ble_eq_true rfl⟩) dW_law_763 (x_kki ?_)
                                          refine x_icmp_eq (tgt := 1121) hX dW_law_766 (by decide) (fun hc => ?_) (fun hc => ?_)
                                          · rw [if_pos hc] at h
                                            obtain ⟨x210, ex210, h⟩ := x_le h
                                            refine x_iinc (j := 3) hX [(3, .int x210), (0, .ref b), (1, .ref (B + v1)), (2, .ref (B + v2))] dW_law_1121 rfl (by rw [ex210]; rfl) (by decide) rfl ?_
                                            refine x_goto (tgt := 18) hX dW_law_1124 (by decide) ?_
                                            refine x_sub [1, 2, 3, 0] rfl ?_
                                            exact ih _ _ _ _ _ h
                                          · rw [if_neg hc] at h
                                            refine x_iconst (v := 0) hX dW_law_769 (by decide) ?_
                                            exact absurd (Option.some.inj h) (by decide)
                                        · rw [if_neg hs1017] at h
                                          by_cases hs1018 : ((xs v3.toNatClampNeg) &&& (31 : Int32)) = 18
                                          · rw [if_pos hs1018] at h
                                            refine x_tableIn (off := 738) (tgt := 771) hX dW_law_33 (by rw [hs1018]; decide) (by rw [hs1018]; decide) (by rw [hs1018]; rfl) (by decide) ?_
                                            refine x_aload_n hX dW_law_771 rfl rfl ?_
                                            obtain ⟨hg211, h⟩ := x_gd h
                                            obtain ⟨⟨x212, I213, J214⟩, eb215, h⟩ := x_bd h
                                            dsimp only at h
                                            refine x_callVL hX (by rw [hR]; exact ⟨Nat.le_of_ble_eq_true rfl, Nat.le_of_ble_eq_true rfl⟩) (c_m0_forget (l := x_l X) (d := 0) eb215) kXW_93 kN0_forget kE0_forget xc0.1 hg211.1 hg211.2 rfl rfl (Nat.le_of_ble_eq_true rfl) (by rw [hR]; exact ⟨Nat.le_of_ble_eq_true rfl, Nat.le_of_ble_eq_true rfl⟩) dW_law_772 (x_kki ?_)
                                            refine x_aload_n hX dW_law_775 rfl rfl ?_
                                            obtain ⟨hg216, h⟩ := x_gd h
                                            obtain ⟨⟨x217, I218, J219⟩, eb220, h⟩ := x_bd h
                                            dsimp only at h
                                            refine x_callVL hX (by rw [hR]; exact ⟨Nat.le_of_ble_eq_true rfl, Nat.le_of_ble_eq_true rfl⟩) (c_m5_forget (l := x_l X) (d := 0) eb220) kXW_96 kN5_forget kE5_forget xc5.1 hg216.1 hg216.2 rfl rfl (Nat.le_of_ble_eq_true rfl) (by rw [hR]; exact ⟨Nat.le_of_ble_eq_true rfl, Nat.le_of_ble_eq_true rfl⟩) dW_law_776 (x_kki ?_)
                                            refine x_icmp_eq (tgt := 1121) hX dW_law_779 (by decide) (fun hc => ?_) (fun hc => ?_)
                                            · rw [if_pos hc] at h
                                              obtain ⟨x221, ex221, h⟩ := x_le h
                                              refine x_iinc (j := 3) hX [(3, .int x221), (0, .ref b), (1, .ref (B + v1)), (2, .ref (B + v2))] dW_law_1121 rfl (by rw [ex221]; rfl) (by decide) rfl ?_
                                              refine x_goto (tgt := 18) hX dW_law_1124 (by decide) ?_
                                              refine x_sub [1, 2, 3, 0] rfl ?_
                                              exact ih _ _ _ _ _ h
                                            · rw [if_neg hc] at h
                                              refine x_iconst (v := 0) hX dW_law_782 (by decide) ?_
                                              exact absurd (Option.some.inj h) (by decide)
                                          · rw [if_neg hs1018] at h
                                            by_cases hs1019 : ((xs v3.toNatClampNeg) &&& (31 : Int32)) = 19
                                            · rw [if_pos hs1019] at h
                                              refine x_tableIn (off := 751) (tgt := 784) hX dW_law_33 (by rw [hs1019]; decide) (by rw [hs1019]; decide) (by rw [hs1019]; rfl) (by decide) ?_
                                              refine x_aload_n hX dW_law_784 rfl rfl ?_
                                              refine x_aload_n hX dW_law_785 rfl rfl ?_
                                              refine x_iload_n hX dW_law_786 rfl rfl ?_
                                              refine x_iconst (v := 1) hX dW_law_787 (by decide) ?_
                                              refine x_iadd hX dW_law_788 ?_
                                              obtain ⟨hg222, h⟩ := x_gd h
                                              refine x_sld hX hr.1 hg222 dW_law_789 ?_
                                              refine x_aload_n hX dW_law_790 rfl rfl ?_
                                              refine x_iload_n hX dW_law_791 rfl rfl ?_
                                              refine x_iconst (v := 2) hX dW_law_792 (by decide) ?_
                                              refine x_iadd hX dW_law_793 ?_
                                              obtain ⟨hg223, h⟩ := x_gd h
                                              refine x_sld hX hr.1 hg223 dW_law_794 ?_
                                              refine x_aload_n hX dW_law_795 rfl rfl ?_
                                              refine x_iload_n hX dW_law_796 rfl rfl ?_
                                              refine x_iconst (v := 3) hX dW_law_797 (by decide) ?_
                                              refine x_iadd hX dW_law_798 ?_
                                              obtain ⟨hg224, h⟩ := x_gd h
                                              refine x_sld hX hr.1 hg224 dW_law_799 ?_
                                              obtain ⟨hg225, h⟩ := x_gd h
                                              obtain ⟨⟨x226, I227, J228⟩, eb229, h⟩ := x_bd h
                                              dsimp only at h
                                              refine x_callVL hX (by rw [hR]; exact ⟨Nat.le_of_ble_eq_true rfl, Nat.le_of_ble_eq_true rfl⟩) (c_m0_net (l := x_l X) (d := 0) eb229) kXW_97 kN0_net kE0_net xc0.1 hg225.1 hg225.2 rfl rfl (Nat.le_of_ble_eq_true rfl) (by rw [hR]; exact ⟨Nat.le_of_ble_eq_true rfl, Nat.le_of_ble_eq_true rfl⟩) dW_law_800 (x_kki ?_)
                                              refine x_aload_n hX dW_law_803 rfl rfl ?_
                                              refine x_aload_n hX dW_law_804 rfl rfl ?_
                                              refine x_iload_n hX dW_law_805 rfl rfl ?_
                                              refine x_iconst (v := 1) hX dW_law_806 (by decide) ?_
                                              refine x_iadd hX dW_law_807 ?_
                                              refine x_sld hX hr.1 hg222 dW_law_808 ?_
                                              refine x_aload_n hX dW_law_809 rfl rfl ?_
                                              refine x_iload_n hX dW_law_810 rfl rfl ?_
                                              refine x_iconst (v := 2) hX dW_law_811 (by decide) ?_
                                              refine x_iadd hX dW_law_812 ?_
                                              refine x_sld hX hr.1 hg223 dW_law_813 ?_
                                              refine x_aload_n hX dW_law_814 rfl rfl ?_
                                              refine x_iload_n hX dW_law_815 rfl rfl ?_
                                              refine x_iconst (v := 3) hX dW_law_816 (by decide) ?_
                                              refine x_iadd hX dW_law_817 ?_
                                              refine x_sld hX hr.1 hg224 dW_law_818 ?_
                                              obtain ⟨hg230, h⟩ := x_gd h
                                              obtain ⟨⟨x231, I232, J233⟩, eb234, h⟩ := x_bd h
                                              dsimp only at h
                                              refine x_callVL hX (by rw [hR]; exact ⟨Nat.le_of_ble_eq_true rfl, Nat.le_of_ble_eq_true rfl⟩) (c_m5_net (l := x_l X) (d := 0) eb234) kXW_100 kN5_net kE5_net xc5.1 hg230.1 hg230.2 rfl rfl (Nat.le_of_ble_eq_true rfl) (by rw [hR]; exact ⟨Nat.le_of_ble_eq_true rfl, Nat.le_of_ble_eq_true rfl⟩) dW_law_819 (x_kki ?_)
                                              refine x_icmp_eq (tgt := 1121) hX dW_law_822 (by decide) (fun hc => ?_) (fun hc => ?_)
                                              · rw [if_pos hc] at h
                                                obtain ⟨x235, ex235, h⟩ := x_le h
                                                refine x_iinc (j := 3) hX [(3, .int x235), (0, .ref b), (1, .ref (B + v1)), (2, .ref (B + v2))] dW_law_1121 rfl (by rw [ex235]; rfl) (by decide) rfl ?_
                                                refine x_goto (tgt := 18) hX dW_law_1124 (by decide) ?_
                                                refine x_sub [1, 2, 3, 0] rfl ?_
                                                exact ih _ _ _ _ _ h
                                              · rw [if_neg hc] at h
                                                refine x_iconst (v := 0) hX dW_law_825 (by decide) ?_
                                                exact absurd (Option.some.inj h) (by decide)
                                            · rw [if_neg hs1019] at h
                                              by_cases hs1020 : ((xs v3.toNatClampNeg) &&& (31 : Int32)) = 20
                                              · rw [if_pos hs1020] at h
                                                refine x_tableIn (off := 794) (tgt := 827) hX dW_law_33 (by rw [hs1020]; decide) (by rw [hs1020]; decide) (by rw [hs1020]; rfl) (by decide) ?_
                                                refine x_aload_n hX dW_law_827 rfl rfl ?_
                                                refine x_aload_n hX dW_law_828 rfl rfl ?_
                                                refine x_iload_n hX dW_law_829 rfl rfl ?_
                                                refine x_iconst (v := 1) hX dW_law_830 (by decide) ?_
                                                refine x_iadd hX dW_law_831 ?_
                                                obtain ⟨hg236, h⟩ := x_gd h
                                                refine x_sld hX hr.1 hg236 dW_law_832 ?_
                                                refine x_aload_n hX dW_law_833 rfl rfl ?_
                                                refine x_iload_n hX dW_law_834 rfl rfl ?_
                                                refine x_iconst (v := 2) hX dW_law_835 (by decide) ?_
                                                refine x_iadd hX dW_law_836 ?_
                                                obtain ⟨hg237, h⟩ := x_gd h
                                                refine x_sld hX hr.1 hg237 dW_law_837 ?_
                                                obtain ⟨hg238, h⟩ := x_gd h
                                                obtain ⟨⟨x239, J240⟩, eb241, h⟩ := x_bd h
                                                dsimp only at h
                                                refine x_callVL hX (by rw [hR]; exact ⟨Nat.le_of_ble_eq_true rfl, Nat.le_of_ble_eq_true rfl⟩) (c_m0_copy (l := x_l X) (d := 0) eb241) kXW_101 kN0_copy kE0_copy xc0.1 hg238.1 hg238.2 rfl rfl (Nat.le_of_ble_eq_true rfl) (by rw [hR]; exact ⟨Nat.le_of_ble_eq_true rfl, Nat.le_of_ble_eq_true rfl⟩) dW_law_838 (x_kki ?_)
                                                refine x_aload_n hX dW_law_841 rfl rfl ?_
                                                refine x_aload_n hX dW_law_842 rfl rfl ?_
                                                refine x_iload_n hX dW_law_843 rfl rfl ?_
                                                refine x_iconst (v := 1) hX dW_law_844 (by decide) ?_
                                                refine x_iadd hX dW_law_845 ?_
                                                refine x_sld hX hr.1 hg236 dW_law_846 ?_
                                                refine x_aload_n hX dW_law_847 rfl rfl ?_
                                                refine x_iload_n hX dW_law_848 rfl rfl ?_
                                                refine x_iconst (v := 2) hX dW_law_849 (by decide) ?_
                                                refine x_iadd hX dW_law_850 ?_
                                                refine x_sld hX hr.1 hg237 dW_law_851 ?_
                                                obtain ⟨hg242, h⟩ := x_gd h
                                                obtain ⟨⟨x243, I244, J245⟩, eb246, h⟩ := x_bd h
                                                dsimp only at h
                                                refine x_callVL hX (by rw [hR]; exact ⟨Nat.le_of_ble_eq_true rfl, Nat.le_of_ble_eq_true rfl⟩) (c_m5_copy (l := x_l X) (d := 0) eb246) kXW_104 kN5_copy kE5_copy xc5.1 hg242.1 hg242.2 rfl rfl (Nat.le_of_ble_eq_true rfl) (by rw [hR]; exact ⟨Nat.le_of_ble_eq_true rfl, Nat.le_of_ble_eq_true rfl⟩) dW_law_852 (x_kki ?_)
                                                refine x_icmp_eq (tgt := 1121) hX dW_law_855 (by decide) (fun hc => ?_) (fun hc => ?_)
                                                · rw [if_pos hc] at h
                                                  obtain ⟨x247, ex247, h⟩ := x_le h
                                                  refine x_iinc (j := 3) hX [(3, .int x247), (0, .ref b), (1, .ref (B + v1)), (2, .ref (B + v2))] dW_law_1121 rfl (by rw [ex247]; rfl) (by decide) rfl ?_
                                                  refine x_goto (tgt := 18) hX dW_law_1124 (by decide) ?_
                                                  refine x_sub [1, 2, 3, 0] rfl ?_
                                                  exact ih _ _ _ _ _ h
                                                · rw [if_neg hc] at h
                                                  refine x_iconst (v := 0) hX dW_law_858 (by decide) ?_
                                                  exact absurd (Option.some.inj h) (by decide)
                                              · rw [if_neg hs1020] at h
                                                by_cases hs1021 : ((xs v3.toNatClampNeg) &&& (31 : Int32)) = 21
                                                · rw [if_pos hs1021] at h
                                                  refine x_tableIn (off := 827) (tgt := 860) hX dW_law_33 (by rw [hs1021]; decide) (by rw [hs1021]; decide) (by rw [hs1021]; rfl) (by decide) ?_
                                                  refine x_aload_n hX dW_law_860 rfl rfl ?_
                                                  refine x_aload_n hX dW_law_861 rfl rfl ?_
                                                  refine x_iload_n hX dW_law_862 rfl rfl ?_
                                                  refine x_iconst (v := 1) hX dW_law_863 (by decide) ?_
                                                  refine x_iadd hX dW_law_864 ?_
                                                  obtain ⟨hg248, h⟩ := x_gd h
                                                  refine x_sld hX hr.1 hg248 dW_law_865 ?_
                                                  refine x_aload_n hX dW_law_866 rfl rfl ?_
                                                  refine x_iload_n hX dW_law_867 rfl rfl ?_
                                                  refine x_iconst (v := 2) hX dW_law_868 (by decide) ?_
                                                  refine x_iadd hX dW_law_869 ?_
                                                  obtain ⟨hg249, h⟩ := x_gd h
                                                  refine x_sld hX hr.1 hg249 dW_law_870 ?_
                                                  refine x_aload_n hX dW_law_871 rfl rfl ?_
                                                  refine x_iload_n hX dW_law_872 rfl rfl ?_
                                                  refine x_iconst (v := 3) hX dW_law_873 (by decide) ?_
                                                  refine x_iadd hX dW_law_874 ?_
                                                  obtain ⟨hg250, h⟩ := x_gd h
                                                  refine x_sld hX hr.1 hg250 dW_law_875 ?_
                                                  refine x_i2l hX dW_law_876 ?_
                                                  refine x_bipush (v := 32) hX dW_law_877 (by decide) ?_
                                                  refine x_lshl hX dW_law_879 ?_
                                                  refine x_aload_n hX dW_law_880 rfl rfl ?_
                                                  refine x_iload_n hX dW_law_881 rfl rfl ?_
                                                  refine x_iconst (v := 4) hX dW_law_882 (by decide) ?_
                                                  refine x_iadd hX dW_law_883 ?_
                                                  obtain ⟨hg251, h⟩ := x_gd h
                                                  refine x_sld hX hr.1 hg251 dW_law_884 ?_
                                                  refine x_i2l hX dW_law_885 ?_
                                                  refine x_ldc2 (v := 4294967295) hX kCW_22 dW_law_886 ?_
                                                  refine x_land hX dW_law_889 ?_
                                                  refine x_lor hX dW_law_890 ?_
                                                  refine x_aload_n hX dW_law_891 rfl rfl ?_
                                                  refine x_iload_n hX dW_law_892 rfl rfl ?_
                                                  refine x_iconst (v := 5) hX dW_law_893 (by decide) ?_
                                                  refine x_iadd hX dW_law_894 ?_
                                                  obtain ⟨hg252, h⟩ := x_gd h
                                                  refine x_sld hX hr.1 hg252 dW_law_895 ?_
                                                  refine x_i2l hX dW_law_896 ?_
                                                  refine x_bipush (v := 32) hX dW_law_897 (by decide) ?_
                                                  refine x_lshl hX dW_law_899 ?_
                                                  refine x_aload_n hX dW_law_900 rfl rfl ?_
                                                  refine x_iload_n hX dW_law_901 rfl rfl ?_
                                                  refine x_bipush (v := 6) hX dW_law_902 (by decide) ?_
                                                  refine x_iadd hX dW_law_904 ?_
                                                  obtain ⟨hg253, h⟩ := x_gd h
                                                  refine x_sld hX hr.1 hg253 dW_law_905 ?_
                                                  refine x_i2l hX dW_law_906 ?_
                                                  refine x_ldc2 (v := 4294967295) hX kCW_22 dW_law_907 ?_
                                                  refine x_land hX dW_law_910 ?_
                                                  refine x_lor hX dW_law_911 ?_
                                                  obtain ⟨hg254, h⟩ := x_gd h
                                                  obtain ⟨⟨x255, J256⟩, eb257, h⟩ := x_bd h
                                                  dsimp only at h
                                                  refine x_callVL hX (by rw [hR]; exact ⟨Nat.le_of_ble_eq_true rfl, Nat.le_of_ble_eq_true rfl⟩) (c_m0_take (l := x_l X) (d := 0) eb257) kXW_105 kN0_take kE0_take xc0.1 hg254.1 hg254.2 rfl rfl (Nat.le_of_ble_eq_true rfl) (by rw [hR]; exact ⟨Nat.le_of_ble_eq_true rfl, Nat.le_of_ble_eq_true rfl⟩) dW_law_912 (x_kki ?_)
                                                  refine x_aload_n hX dW_law_915 rfl rfl ?_
                                                  refine x_aload_n hX dW_law_916 rfl rfl ?_
                                                  refine x_iload_n hX dW_law_917 rfl rfl ?_
                                                  refine x_iconst (v := 1) hX dW_law_918 (by decide) ?_
                                                  refine x_iadd hX dW_law_919 ?_
                                                  refine x_sld hX hr.1 hg248 dW_law_920 ?_
                                                  refine x_aload_n hX dW_law_921 rfl rfl ?_
                                                  refine x_iload_n hX dW_law_922 rfl rfl ?_
                                                  refine x_iconst (v := 2) hX dW_law_923 (by decide) ?_
                                                  refine x_iadd hX dW_law_924 ?_
                                                  refine x_sld hX hr.1 hg249 dW_law_925 ?_
                                                  refine x_aload_n hX dW_law_926 rfl rfl ?_
                                                  refine x_iload_n hX dW_law_927 rfl rfl ?_
                                                  refine x_iconst (v := 3) hX dW_law_928 (by decide) ?_
                                                  refine x_iadd hX dW_law_929 ?_
                                                  refine x_sld hX hr.1 hg250 dW_law_930 ?_
                                                  refine x_i2l hX dW_law_931 ?_
                                                  refine x_bipush (v := 32) hX dW_law_932 (by decide) ?_
                                                  refine x_lshl hX dW_law_934 ?_
                                                  refine x_aload_n hX dW_law_935 rfl rfl ?_
                                                  refine x_iload_n hX dW_law_936 rfl rfl ?_
                                                  refine x_iconst (v := 4) hX dW_law_937 (by decide) ?_
                                                  refine x_iadd hX dW_law_938 ?_
                                                  refine x_sld hX hr.1 hg251 dW_law_939 ?_
                                                  refine x_i2l hX dW_law_940 ?_
                                                  refine x_ldc2 (v := 4294967295) hX kCW_22 dW_law_941 ?_
                                                  refine x_land hX dW_law_944 ?_
                                                  refine x_lor hX dW_law_945 ?_
                                                  refine x_aload_n hX dW_law_946 rfl rfl ?_
                                                  refine x_iload_n hX dW_law_947 rfl rfl ?_
                                                  refine x_iconst (v := 5) hX dW_law_948 (by decide) ?_
                                                  refine x_iadd hX dW_law_949 ?_
                                                  refine x_sld hX hr.1 hg252 dW_law_950 ?_
                                                  refine x_i2l hX dW_law_951 ?_
                                                  refine x_bipush (v := 32) hX dW_law_952 (by decide) ?_
                                                  refine x_lshl hX dW_law_954 ?_
                                                  refine x_aload_n hX dW_law_955 rfl rfl ?_
                                                  refine x_iload_n hX dW_law_956 rfl rfl ?_
                                                  refine x_bipush (v := 6) hX dW_law_957 (by decide) ?_
                                                  refine x_iadd hX dW_law_959 ?_
                                                  refine x_sld hX hr.1 hg253 dW_law_960 ?_
                                                  refine x_i2l hX dW_law_961 ?_
                                                  refine x_ldc2 (v := 4294967295) hX kCW_22 dW_law_962 ?_
                                                  refine x_land hX dW_law_965 ?_
                                                  refine x_lor hX dW_law_966 ?_
                                                  obtain ⟨hg258, h⟩ := x_gd h
                                                  obtain ⟨⟨x259, I260, J261⟩, eb262, h⟩ := x_bd h
                                                  dsimp only at h
                                                  refine x_callVL hX (by rw [hR]; exact ⟨Nat.le_of_ble_eq_true rfl, Nat.le_of_ble_eq_true rfl⟩) (c_m5_take (l := x_l X) (d := 0) eb262) kXW_109 kN5_take kE5_take xc5.1 hg258.1 hg258.2 rfl rfl (Nat.le_of_ble_eq_true rfl) (by rw [hR]; exact ⟨Nat.le_of_ble_eq_true rfl, Nat.le_of_ble_eq_true rfl⟩) dW_law_967 (x_kki ?_)
                                                  refine x_icmp_eq (tgt := 1121) hX dW_law_970 (by decide) (fun hc => ?_) (fun hc => ?_)
                                                  · rw [if_pos hc] at h
                                                    obtain ⟨x263, ex263, h⟩ := x_le h
                                                    refine x_iinc (j := 3) hX [(3, .int x263), (0, .ref b), (1, .ref (B + v1)), (2, .ref (B + v2))] dW_law_1121 rfl (by rw [ex263]; rfl) (by decide) rfl ?_
                                                    refine x_goto (tgt := 18) hX dW_law_1124 (by decide) ?_
                                                    refine x_sub [1, 2, 3, 0] rfl ?_
                                                    exact ih _ _ _ _ _ h
                                                  · rw [if_neg hc] at h
                                                    refine x_iconst (v := 0) hX dW_law_973 (by decide) ?_
                                                    exact absurd (Option.some.inj h) (by decide)
                                                · rw [if_neg hs1021] at h
                                                  by_cases hs1022 : ((xs v3.toNatClampNeg) &&& (31 : Int32)) = 22
                                                  · rw [if_pos hs1022] at h
                                                    refine x_tableIn (off := 942) (tgt := 975) hX dW_law_33 (by rw [hs1022]; decide) (by rw [hs1022]; decide) (by rw [hs1022]; rfl) (by decide) ?_
                                                    refine x_aload_n hX dW_law_975 rfl rfl ?_
                                                    refine x_aload_n hX dW_law_976 rfl rfl ?_
                                                    refine x_iload_n hX dW_law_977 rfl rfl ?_
                                                    refine x_iconst (v := 1) hX dW_law_978 (by decide) ?_
                                                    refine x_iadd hX dW_law_979 ?_
                                                    obtain ⟨hg264, h⟩ := x_gd h
                                                    refine x_sld hX hr.1 hg264 dW_law_980 ?_
                                                    obtain ⟨hg265, h⟩ := x_gd h
                                                    obtain ⟨x266, eb267, h⟩ := x_bd h
                                                    refine x_callVL hX (by rw [hR]; exact ⟨Nat.le_of_ble_eq_true rfl, Nat.le_of_ble_eq_true rfl⟩) (c_m0_same (l := x_l X) (d := 0) eb267) kXW_110 kN0_same kE0_same xc0.1 hg265.1 hg265.2 rfl rfl (Nat.le_of_ble_eq_true rfl) (by rw [hR]; exact ⟨Nat.le_of_ble_eq_true rfl, Nat.le_of_ble_eq_true rfl⟩) dW_law_981 (x_kki ?_)
                                                    refine x_aload_n hX dW_law_984 rfl rfl ?_
                                                    refine x_aload_n hX dW_law_985 rfl rfl ?_
                                                    refine x_iload_n hX dW_law_986 rfl rfl ?_
                                                    refine x_iconst (v := 1) hX dW_law_987 (by decide) ?_
                                                    refine x_iadd hX dW_law_988 ?_
                                                    refine x_sld hX hr.1 hg264 dW_law_989 ?_
                                                    obtain ⟨hg268, h⟩ := x_gd h
                                                    obtain ⟨x269, eb270, h⟩ := x_bd h
                                                    refine x_callVL hX (by rw [hR]; exact ⟨Nat.le_of_ble_eq_true rfl, Nat.le_of_ble_eq_true rfl⟩) (c_m5_same (l := x_l X) (d := 0) eb270) kXW_114 kN5_same kE5_same xc5.1 hg268.1 hg268.2 rfl rfl (Nat.le_of_ble_eq_true rfl) (by rw [hR]; exact ⟨Nat.le_of_ble_eq_true rfl, Nat.le_of_ble_eq_true rfl⟩) dW_law_990 (x_kki ?_)
                                                    refine x_icmp_eq (tgt := 1121) hX dW_law_993 (by decide) (fun hc => ?_) (fun hc => ?_)
                                                    · rw [if_pos hc] at h
                                                      obtain ⟨x271, ex271, h⟩ := x_le h
                                                      refine x_iinc (j := 3) hX [(3, .int x271), (0, .ref b), (1, .ref (B + v1)), (2, .ref (B + v2))] dW_law_1121 rfl (by rw [ex271]; rfl) (by decide) rfl ?_
                                                      refine x_goto (tgt := 18) hX dW_law_1124 (by decide) ?_
                                                      refine x_sub [1, 2, 3, 0] rfl ?_
                                                      exact ih _ _ _ _ _ h
                                                    · rw [if_neg hc] at h
                                                      refine x_iconst (v := 0) hX dW_law_996 (by decide) ?_
                                                      exact absurd (Option.some.inj h) (by decide)
                                                  · rw [if_neg hs1022] at h
                                                    by_cases hs1023 : ((xs v3.toNatClampNeg) &&& (31 : Int32)) = 23
                                                    · rw [if_pos hs1023] at h
                                                      refine x_tableIn (off := 965) (tgt := 998) hX dW_law_33 (by rw [hs1023]; decide) (by rw [hs1023]; decide) (by rw [hs1023]; rfl) (by decide) ?_
                                                      refine x_aload_n hX dW_law_998 rfl rfl ?_
                                                      refine x_aload_n hX dW_law_999 rfl rfl ?_
                                                      refine x_iload_n hX dW_law_1000 rfl rfl ?_
                                                      refine x_iconst (v := 1) hX dW_law_1001 (by decide) ?_
                                                      refine x_iadd hX dW_law_1002 ?_
                                                      obtain ⟨hg272, h⟩ := x_gd h
                                                      refine x_sld hX hr.1 hg272 dW_law_1003 ?_
                                                      refine x_aload_n hX dW_law_1004 rfl rfl ?_
                                                      refine x_iload_n hX dW_law_1005 rfl rfl ?_
                                                      refine x_iconst (v := 2) hX dW_law_1006 (by decide) ?_
                                                      refine x_iadd hX dW_law_1007 ?_
                                                      obtain ⟨hg273, h⟩ := x_gd h
                                                      refine x_sld hX hr.1 hg273 dW_law_1008 ?_
                                                      obtain ⟨hg274, h⟩ := x_gd h
                                                      obtain ⟨x275, eb276, h⟩ := x_bd h
                                                      refine x_callVL hX (by rw [hR]; exact ⟨Nat.le_of_ble_eq_true rfl, Nat.le_of_ble_eq_true rfl⟩) (c_m0_has (l := x_l X) (d := 0) eb276) kXW_115 kN0_has kE0_has xc0.1 hg274.1 hg274.2 rfl rfl (Nat.le_of_ble_eq_true rfl) (by rw [hR]; exact ⟨Nat.le_of_ble_eq_true rfl, Nat.le_of_ble_eq_true rfl⟩) dW_law_1009 (x_kki ?_)
                                                      refine x_aload_n hX dW_law_1012 rfl rfl ?_
                                                      refine x_aload_n hX dW_law_1013 rfl rfl ?_
                                                      refine x_iload_n hX dW_law_1014 rfl rfl ?_
                                                      refine x_iconst (v := 1) hX dW_law_1015 (by decide) ?_
                                                      refine x_iadd hX dW_law_1016 ?_
                                                      refine x_sld hX hr.1 hg272 dW_law_1017 ?_
                                                      refine x_aload_n hX dW_law_1018 rfl rfl ?_
                                                      refine x_iload_n hX dW_law_1019 rfl rfl ?_
                                                      refine x_iconst (v := 2) hX dW_law_1020 (by decide) ?_
                                                      refine x_iadd hX dW_law_1021 ?_
                                                      refine x_sld hX hr.1 hg273 dW_law_1022 ?_
                                                      obtain ⟨hg277, h⟩ := x_gd h
                                                      obtain ⟨x278, eb279, h⟩ := x_bd h
                                                      refine x_callVL hX (by rw [hR]; exact ⟨Nat.le_of_ble_eq_true rfl, Nat.le_of_ble_eq_true rfl⟩) (c_m5_has (l := x_l X) (d := 0) eb279) kXW_118 kN5_has kE5_has xc5.1 hg277.1 hg277.2 rfl rfl (Nat.le_of_ble_eq_true rfl) (by rw [hR]; exact ⟨Nat.le_of_ble_eq_true rfl, Nat.le_of_ble_eq_true rfl⟩) dW_law_1023 (x_kki ?_)
                                                      refine x_icmp_eq (tgt := 1121) hX dW_law_1026 (by decide) (fun hc => ?_) (fun hc => ?_)
                                                      · rw [if_pos hc] at h
                                                        obtain ⟨x280, ex280, h⟩ := x_le h
                                                        refine x_iinc (j := 3) hX [(3, .int x280), (0, .ref b), (1, .ref (B + v1)), (2, .ref (B + v2))] dW_law_1121 rfl (by rw [ex280]; rfl) (by decide) rfl ?_
                                                        refine x_goto (tgt := 18) hX dW_law_1124 (by decide) ?_
                                                        refine x_sub [1, 2, 3, 0] rfl ?_
                                                        exact ih _ _ _ _ _ h
                                                      · rw [if_neg hc] at h
                                                        refine x_iconst (v := 0) hX dW_law_1029 (by decide) ?_
                                                        exact absurd (Option.some.inj h) (by decide)
                                                    · rw [if_neg hs1023] at h
                                                      by_cases hs1024 : ((xs v3.toNatClampNeg) &&& (31 : Int32)) = 24
                                                      · rw [if_pos hs1024] at h
                                                        refine x_tableIn (off := 998) (tgt := 1031) hX dW_law_33 (by rw [hs1024]; decide) (by rw [hs1024]; decide) (by rw [hs1024]; rfl) (by decide) ?_
                                                        refine x_aload_n hX dW_law_1031 rfl rfl ?_
                                                        refine x_aload_n hX dW_law_1032 rfl rfl ?_
                                                        refine x_iload_n hX dW_law_1033 rfl rfl ?_
                                                        refine x_iconst (v := 1) hX dW_law_1034 (by decide) ?_
                                                        refine x_iadd hX dW_law_1035 ?_
                                                        obtain ⟨hg281, h⟩ := x_gd h
                                                        refine x_sld hX hr.1 hg281 dW_law_1036 ?_
                                                        refine x_aload_n hX dW_law_1037 rfl rfl ?_
                                                        refine x_iload_n hX dW_law_1038 rfl rfl ?_
                                                        refine x_iconst (v := 2) hX dW_law_1039 (by decide) ?_
                                                        refine x_iadd hX dW_law_1040 ?_
                                                        obtain ⟨hg282, h⟩ := x_gd h
                                                        refine x_sld hX hr.1 hg282 dW_law_1041 ?_
                                                        obtain ⟨hg283, h⟩ := x_gd h
                                                        obtain ⟨x284, eb285, h⟩ := x_bd h
                                                        refine x_callVL hX (by rw [hR]; exact ⟨Nat.le_of_ble_eq_true rfl, Nat.le_of_ble_eq_true rfl⟩) (c_m0_at (l := x_l X) (d := 0) eb285) kXW_119 kN0_at kE0_at xc0.1 hg283.1 hg283.2 rfl rfl (Nat.le_of_ble_eq_true rfl) (by rw [hR]; exact ⟨Nat.le_of_ble_eq_true rfl, Nat.le_of_ble_eq_true rfl⟩) dW_law_1042 (x_kkl ?_)
                                                        refine x_aload_n hX dW_law_1045 rfl rfl ?_
                                                        refine x_aload_n hX dW_law_1046 rfl rfl ?_
                                                        refine x_iload_n hX dW_law_1047 rfl rfl ?_
                                                        refine x_iconst (v := 1) hX dW_law_1048 (by decide) ?_
                                                        refine x_iadd hX dW_law_1049 ?_
                                                        refine x_sld hX hr.1 hg281 dW_law_1050 ?_
                                                        refine x_aload_n hX dW_law_1051 rfl rfl ?_
                                                        refine x_iload_n hX dW_law_1052 rfl rfl ?_
                                                        refine x_iconst (v := 2) hX dW_law_1053 (by decide) ?_
                                                        refine x_iadd hX dW_law_1054 ?_
                                                        refine x_sld hX hr.1 hg282 dW_law_1055 ?_
                                                        obtain ⟨hg286, h⟩ := x_gd h
                                                        obtain ⟨x287, eb288, h⟩ := x_bd h
                                                        refine x_callVL hX (by rw [hR]; exact ⟨Nat.le_of_ble_eq_true rfl, Nat.le_of_ble_eq_true rfl⟩) (c_m5_at (l := x_l X) (d := 0) eb288) kXW_123 kN5_at kE5_at xc5.1 hg286.1 hg286.2 rfl rfl (Nat.le_of_ble_eq_true rfl) (by rw [hR]; exact ⟨Nat.le_of_ble_eq_true rfl, Nat.le_of_ble_eq_true rfl⟩) dW_law_1056 (x_kkl ?_)
                                                        refine x_lif_eq (tgt := 1121) hX dW_law_1059 dW_law_1060 (by decide) (fun hc => ?_) (fun hc => ?_)
                                                        · rw [if_pos hc] at h
                                                          obtain ⟨x289, ex289, h⟩ := x_le h
                                                          refine x_iinc (j := 3) hX [(3, .int x289), (0, .ref b), (1, .ref (B + v1)), (2, .ref (B + v2))] dW_law_1121 rfl (by rw [ex289]; rfl) (by decide) rfl ?_
                                                          refine x_goto (tgt := 18) hX dW_law_1124 (by decide) ?_
                                                          refine x_sub [1, 2, 3, 0] rfl ?_
                                                          exact ih _ _ _ _ _ h
                                                        · rw [if_neg hc] at h
                                                          refine x_iconst (v := 0) hX dW_law_1063 (by decide) ?_
                                                          exact absurd (Option.some.inj h) (by decide)
                                                      · rw [if_neg hs1024] at h
                                                        by_cases hs1025 : ((xs v3.toNatClampNeg) &&& (31 : Int32)) = 25
                                                        · rw [if_pos hs1025] at h
                                                          refine x_tableIn (off := 1032) (tgt := 1065) hX dW_law_33 (by rw [hs1025]; decide) (by rw [hs1025]; decide) (by rw [hs1025]; rfl) (by decide) ?_
                                                          refine x_aload_n hX dW_law_1065 rfl rfl ?_
                                                          refine x_aload_n hX dW_law_1066 rfl rfl ?_
                                                          refine x_iload_n hX dW_law_1067 rfl rfl ?_
                                                          refine x_iconst (v := 1) hX dW_law_1068 (by decide) ?_
                                                          refine x_iadd hX dW_law_1069 ?_
                                                          obtain ⟨hg290, h⟩ := x_gd h
                                                          refine x_sld hX hr.1 hg290 dW_law_1070 ?_
                                                          refine x_aload_n hX dW_law_1071 rfl rfl ?_
                                                          refine x_iload_n hX dW_law_1072 rfl rfl ?_
                                                          refine x_iconst (v := 2) hX dW_law_1073 (by decide) ?_
                                                          refine x_iadd hX dW_law_1074 ?_
                                                          obtain ⟨hg291, h⟩ := x_gd h
                                                          refine x_sld hX hr.1 hg291 dW_law_1075 ?_
                                                          obtain ⟨hg292, h⟩ := x_gd h
                                                          obtain ⟨x293, eb294, h⟩ := x_bd h
                                                          refine x_callVL hX (by rw [hR]; exact ⟨Nat.le_of_ble_eq_true rfl, Nat.le_of_ble_eq_true rfl⟩) (c_m0_of (l := x_l X) (d := 0) eb294) kXW_124 kN0_of kE0_of xc0.1 hg292.1 hg292.2 rfl rfl (Nat.le_of_ble_eq_true rfl) (by rw [hR]; exact ⟨Nat.le_of_ble_eq_true rfl, Nat.le_of_ble_eq_true rfl⟩) dW_law_1076 (x_kki ?_)
                                                          refine x_aload_n hX dW_law_1079 rfl rfl ?_
                                                          refine x_aload_n hX dW_law_1080 rfl rfl ?_
                                                          refine x_iload_n hX dW_law_1081 rfl rfl ?_
                                                          refine x_iconst (v := 1) hX dW_law_1082 (by decide) ?_
                                                          refine x_iadd hX dW_law_1083 ?_
                                                          refine x_sld hX hr.1 hg290 dW_law_1084 ?_
                                                          refine x_aload_n hX dW_law_1085 rfl rfl ?_
                                                          refine x_iload_n hX dW_law_1086 rfl rfl ?_
                                                          refine x_iconst (v := 2) hX dW_law_1087 (by decide) ?_
                                                          refine x_iadd hX dW_law_1088 ?_
                                                          refine x_sld hX hr.1 hg291 dW_law_1089 ?_
                                                          obtain ⟨hg295, h⟩ := x_gd h
                                                          obtain ⟨x296, eb297, h⟩ := x_bd h
                                                          refine x_callVL hX (by rw [hR]; exact ⟨Nat.le_of_ble_eq_true rfl, Nat.le_of_ble_eq_true rfl⟩) (c_m5_of (l := x_l X) (d := 0) eb297) kXW_127 kN5_of kE5_of xc5.1 hg295.1 hg295.2 rfl rfl (Nat.le_of_ble_eq_true rfl) (by rw [hR]; exact ⟨Nat.le_of_ble_eq_true rfl, Nat.le_of_ble_eq_true rfl⟩) dW_law_1090 (x_kki ?_)
                                                          refine x_icmp_eq (tgt := 1121) hX dW_law_1093 (by decide) (fun hc => ?_) (fun hc => ?_)
                                                          · rw [if_pos hc] at h
                                                            obtain ⟨x298, ex298, h⟩ := x_le h
                                                            refine x_iinc (j := 3) hX [(3, .int x298), (0, .ref b), (1, .ref (B + v1)), (2, .ref (B + v2))] dW_law_1121 rfl (by rw [ex298]; rfl) (by decide) rfl ?_
                                                            refine x_goto (tgt := 18) hX dW_law_1124 (by decide) ?_
                                                            refine x_sub [1, 2, 3, 0] rfl ?_
                                                            exact ih _ _ _ _ _ h
                                                          · rw [if_neg hc] at h
                                                            refine x_iconst (v := 0) hX dW_law_1096 (by decide) ?_
                                                            exact absurd (Option.some.inj h) (by decide)
                                                        · rw [if_neg hs1025] at h
                                                          by_cases hs1026 : ((xs v3.toNatClampNeg) &&& (31 : Int32)) = 26
                                                          · rw [if_pos hs1026] at h
                                                            refine x_tableIn (off := 1065) (tgt := 1098) hX dW_law_33 (by rw [hs1026]; decide) (by rw [hs1026]; decide) (by rw [hs1026]; rfl) (by decide) ?_
                                                            refine x_aload_n hX dW_law_1098 rfl rfl ?_
                                                            refine x_aload_n hX dW_law_1099 rfl rfl ?_
                                                            refine x_iload_n hX dW_law_1100 rfl rfl ?_
                                                            refine x_iconst (v := 1) hX dW_law_1101 (by decide) ?_
                                                            refine x_iadd hX dW_law_1102 ?_
                                                            obtain ⟨hg299, h⟩ := x_gd h
                                                            refine x_sld hX hr.1 hg299 dW_law_1103 ?_
                                                            obtain ⟨hg300, h⟩ := x_gd h
                                                            obtain ⟨x301, eb302, h⟩ := x_bd h
                                                            refine x_callVL hX (by rw [hR]; exact ⟨Nat.le_of_ble_eq_true rfl, Nat.le_of_ble_eq_true rfl⟩) (c_m0_count (l := x_l X) (d := 0) eb302) kXW_128 kN0_count kE0_count xc0.1 hg300.1 hg300.2 rfl rfl (Nat.le_of_ble_eq_true rfl) (by rw [hR]; exact ⟨Nat.le_of_ble_eq_true rfl, Nat.le_of_ble_eq_true rfl⟩) dW_law_1104 (x_kki ?_)
                                                            refine x_aload_n hX dW_law_1107 rfl rfl ?_
                                                            refine x_aload_n hX dW_law_1108 rfl rfl ?_
                                                            refine x_iload_n hX dW_law_1109 rfl rfl ?_
                                                            refine x_iconst (v := 1) hX dW_law_1110 (by decide) ?_
                                                            refine x_iadd hX dW_law_1111 ?_
                                                            refine x_sld hX hr.1 hg299 dW_law_1112 ?_
                                                            obtain ⟨hg303, h⟩ := x_gd h
                                                            obtain ⟨x304, eb305, h⟩ := x_bd h
                                                            refine x_callVL hX (by rw [hR]; exact ⟨Nat.le_of_ble_eq_true rfl, Nat.le_of_ble_eq_true rfl⟩) (c_m5_count (l := x_l X) (d := 0) eb305) kXW_131 kN5_count kE5_count xc5.1 hg303.1 hg303.2 rfl rfl (Nat.le_of_ble_eq_true rfl) (by rw [hR]; exact ⟨Nat.le_of_ble_eq_true rfl, Nat.le_of_ble_eq_true rfl⟩) dW_law_1113 (x_kki ?_)
                                                            refine x_icmp_eq (tgt := 1121) hX dW_law_1116 (by decide) (fun hc => ?_) (fun hc => ?_)
                                                            · rw [if_pos hc] at h
                                                              obtain ⟨x306, ex306, h⟩ := x_le h
                                                              refine x_iinc (j := 3) hX [(3, .int x306), (0, .ref b), (1, .ref (B + v1)), (2, .ref (B + v2))] dW_law_1121 rfl (by rw [ex306]; rfl) (by decide) rfl ?_
                                                              refine x_goto (tgt := 18) hX dW_law_1124 (by decide) ?_
                                                              refine x_sub [1, 2, 3, 0] rfl ?_
                                                              exact ih _ _ _ _ _ h
                                                            · rw [if_neg hc] at h
                                                              refine x_iconst (v := 0) hX dW_law_1119 (by decide) ?_
                                                              exact absurd (Option.some.inj h) (by decide)
                                                          · rw [if_neg hs1026] at h
                                                            refine x_tableOut (tgt := 1121) hX dW_law_33 (x_tout_0_26 hs1000 hs1001 hs1002 hs1003 hs1004 hs1005 hs1006 hs1007 hs1008 hs1009 hs1010 hs1011 hs1012 hs1013 hs1014 hs1015 hs1016 hs1017 hs1018 hs1019 hs1020 hs1021 hs1022 hs1023 hs1024 hs1025 hs1026) (by decide) ?_
                                                            obtain ⟨x307, ex307, h⟩ := x_le h
                                                            refine x_iinc (j := 3) hX [(3, .int x307), (0, .ref b), (1, .ref (B + v1)), (2, .ref (B + v2))] dW_law_1121 rfl (by rw [ex307]; rfl) (by decide) rfl ?_
                                                            refine x_goto (tgt := 18) hX dW_law_1124 (by decide) ?_
                                                            refine x_sub [1, 2, 3, 0] rfl ?_
                                                            exact ih _ _ _ _ _ h
set_option maxRecDepth 100000 in
set_option maxHeartbeats 4000000 in
theorem t_mW_law {X : xX} {B b Ln : Nat} {xs : Nat → Int32} {g : xG} {N : Nat} {K : Nat → Nat × Nat} {F : Nat → Nat → Option Nat} {I : (Nat → Nat → Int32)} {J : (Nat → Nat → Int64)} (hX : xO X code "ChangeRowsLaw" 4 B g) (hR : x_R X = room_1) (hr : xLw X B b Ln xs) (h : mW_law Ln xs N K F I J = some (1 : Int32)) : xV X B 4 (lw_Z (x_below X) #[Value.ref b] (x_s X)) 0 0 (xP g B N K I J F) 0 [(0, .ref b)] [] := by
  unfold mW_law at h
  refine x_new hX xc0 kLW_7 kT0 kI0 (by rw [hR]; exact Nat.le_of_ble_eq_true rfl) (by rw [hR]; exact Nat.le_of_ble_eq_true rfl) dW_law_0 ?_
  obtain ⟨N1, eN1, h⟩ := x_le h
  rw [← eN1]
  obtain ⟨K2, eK2, h⟩ := x_le h
  rw [← eK2]
  obtain ⟨I3, eI3, h⟩ := x_le h
  rw [← eI3]
  obtain ⟨J4, eJ4, h⟩ := x_le h
  rw [← eJ4]
  obtain ⟨F5, eF5, h⟩ := x_le h
  rw [← eF5]
  refine x_dup hX dW_law_3 rfl ?_
  obtain ⟨hg6, h⟩ := x_gd h
  obtain ⟨⟨N7, K8, F9, I10, J11⟩, eb12, h⟩ := x_bd h
  dsimp only at h
  refine x_callIL hX (by rw [hR]; exact ⟨Nat.le_of_ble_eq_true rfl, Nat.le_of_ble_eq_true rfl⟩) (c_m0_init (l := x_l X) (d := 0) eb12) kXW_9 kN0_init rfl rfl rfl (Nat.le_of_ble_eq_true rfl) (by rw [hR]; exact ⟨Nat.le_of_ble_eq_true rfl, Nat.le_of_ble_eq_true rfl⟩) dW_law_4 (x_kkv ?_)
  refine x_astore_n hX [(1, .ref (B + N)), (0, .ref b)] dW_law_7 rfl (by decide) rfl ?_
  refine x_new hX xc5 kLW_10 kT5 kI5 (by rw [hR]; exact Nat.le_of_ble_eq_true rfl) (by rw [hR]; exact Nat.le_of_ble_eq_true rfl) dW_law_8 ?_
  obtain ⟨N13, eN13, h⟩ := x_le h
  rw [← eN13]
  obtain ⟨K14, eK14, h⟩ := x_le h
  rw [← eK14]
  obtain ⟨I15, eI15, h⟩ := x_le h
  rw [← eI15]
  obtain ⟨J16, eJ16, h⟩ := x_le h
  rw [← eJ16]
  obtain ⟨F17, eF17, h⟩ := x_le h
  rw [← eF17]
  refine x_dup hX dW_law_11 rfl ?_
  obtain ⟨hg18, h⟩ := x_gd h
  obtain ⟨⟨N19, K20, F21, I22, J23⟩, eb24, h⟩ := x_bd h
  dsimp only at h
  refine x_callIL hX (by rw [hR]; exact ⟨Nat.le_of_ble_eq_true rfl, Nat.le_of_ble_eq_true rfl⟩) (c_m5_init (l := x_l X) (d := 0) eb24) kXW_12 kN5_init rfl rfl rfl (Nat.le_of_ble_eq_true rfl) (by rw [hR]; exact ⟨Nat.le_of_ble_eq_true rfl, Nat.le_of_ble_eq_true rfl⟩) dW_law_12 (x_kkv ?_)
  refine x_astore_n hX [(2, .ref (B + N7)), (1, .ref (B + N)), (0, .ref b)] dW_law_15 rfl (by decide) rfl ?_
  refine x_iconst (v := 0) hX dW_law_16 (by decide) ?_
  refine x_istore_n hX [(3, .int (0 : Int32)), (2, .ref (B + N7)), (1, .ref (B + N)), (0, .ref b)] dW_law_17 rfl (by decide) rfl ?_
  refine x_wide (a' := 148) (b' := 27838) (Nat.le_of_ble_eq_true rfl) (Nat.le_of_ble_eq_true rfl) ?_
  refine x_sub [3, 2, 1, 0] rfl ?_
  exact t_mW_law_L18 hX hR hr _ _ _ _ _ _ h
