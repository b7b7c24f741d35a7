/-! ===== the law: its cases ===== -/
section LawCases
variable {S : Nat × (Nat → Int32)} {w U i : Nat} {M : inm} {Q : Post}
set_option maxHeartbeats 4000000 in
set_option maxRecDepth 100000 in
theorem law_0 (hS : S.1 ≤ 256) (hi : i + 4 ≤ S.1) (h : Rel M M w U) (hU : U ≤ 50000) (hn : ∀ (w2 U2 : Nat) (M2 : inm), Rel M2 M2 w2 U2 → U2 ≤ U + 60 → Go S yL_law cL_law 4 9 0 0 (some .boolean) 974 [(3, vI ((i : Nat) : Int)), (1, vR 0), (2, vR 279), (0, vS)] [] 303 (PP w2) M2 Q) : Go S yL_law cL_law 4 9 0 0 (some .boolean) 176 [(3, vI ((i : Nat) : Int)), (1, vR 0), (2, vR 279), (0, vS)] [] 303 (PP w) M Q := by
  refine go_aload_n 1 dL_law_176 rfl rfl ?_
  refine go_aload_nS 3 dL_law_177 rfl rfl ?_
  refine go_iload_n 0 dL_law_178 rfl rfl ?_
  refine go_iconst dL_law_179 (by decide) ?_
  refine gx_iadd (v := ((i + 1 : Nat) : Int)) dL_law_180 (by omega) ⟨by omega, by omega⟩ ?_
  refine go_sload dL_law_181 rfl (by omega) (by omega) ?_
  refine go_callVI (av := [vI (S.2 (((i + 1 : Nat) : Int)).toNat).toInt]) (st := []) (a := 0) (mc2 := 0) (ms2 := 0) dL_law_182 cwL_13 (by decide) rfl rfl (Nat.le_of_ble_eq_true rfl) rfl rfl kd_0 ⟨_, _, rfl⟩ (by decide) (by decide) (pr_feed h _ (fun z w1 M1 hk => ?_))
  refine go_aload_n 2 dL_law_185 rfl rfl ?_
  refine go_aload_nS 3 dL_law_186 rfl rfl ?_
  refine go_iload_n 0 dL_law_187 rfl rfl ?_
  refine go_iconst dL_law_188 (by decide) ?_
  refine gx_iadd (v := ((i + 1 : Nat) : Int)) dL_law_189 (by omega) ⟨by omega, by omega⟩ ?_
  refine go_sload dL_law_190 rfl (by omega) (by omega) ?_
  refine go_callVI (av := [vI (S.2 (((i + 1 : Nat) : Int)).toNat).toInt]) (st := [vI z]) (a := 279) (mc2 := 0) (ms2 := 0) dL_law_191 cwL_17 (by decide) rfl rfl (Nat.le_of_ble_eq_true rfl) rfl rfl kd_279 ⟨_, _, rfl⟩ (by decide) (by decide) (hk _ (fun w2 U2 M2 h2 hu => ?_))
  refine go_icmp_eq (tgt := 974) dL_law_194 rfl (fun _ => ?_) (fun c1 => absurd rfl c1)
  exact hn w2 U2 M2 h2 hu
set_option maxHeartbeats 4000000 in
set_option maxRecDepth 100000 in
theorem law_1 (hS : S.1 ≤ 256) (hi : i + 4 ≤ S.1) (h : Rel M M w U) (hU : U ≤ 50000) (hn : ∀ (w2 U2 : Nat) (M2 : inm), Rel M2 M2 w2 U2 → U2 ≤ U + 60 → Go S yL_law cL_law 4 9 0 0 (some .boolean) 974 [(3, vI ((i : Nat) : Int)), (1, vR 0), (2, vR 279), (0, vS)] [] 303 (PP w2) M2 Q) : Go S yL_law cL_law 4 9 0 0 (some .boolean) 199 [(3, vI ((i : Nat) : Int)), (1, vR 0), (2, vR 279), (0, vS)] [] 303 (PP w) M Q := by
  refine go_aload_n 1 dL_law_199 rfl rfl ?_
  refine go_callVI (av := []) (st := []) (a := 0) (mc2 := 0) (ms2 := 0) dL_law_200 cwL_18 (by decide) rfl rfl (Nat.le_of_ble_eq_true rfl) rfl rfl kd_0 ⟨_, _, rfl⟩ (by decide) (by decide) (pr_probate h _ (fun z w1 M1 hk => ?_))
  refine go_aload_n 2 dL_law_203 rfl rfl ?_
  refine go_callVI (av := []) (st := [vI z]) (a := 279) (mc2 := 0) (ms2 := 0) dL_law_204 cwL_22 (by decide) rfl rfl (Nat.le_of_ble_eq_true rfl) rfl rfl kd_279 ⟨_, _, rfl⟩ (by decide) (by decide) (hk _ (fun w2 U2 M2 h2 hu => ?_))
  refine go_icmp_eq (tgt := 974) dL_law_207 rfl (fun _ => ?_) (fun c1 => absurd rfl c1)
  exact hn w2 U2 M2 h2 hu
set_option maxHeartbeats 4000000 in
set_option maxRecDepth 100000 in
theorem law_2 (hS : S.1 ≤ 256) (hi : i + 4 ≤ S.1) (h : Rel M M w U) (hU : U ≤ 50000) (hn : ∀ (w2 U2 : Nat) (M2 : inm), Rel M2 M2 w2 U2 → U2 ≤ U + 60 → Go S yL_law cL_law 4 9 0 0 (some .boolean) 974 [(3, vI ((i : Nat) : Int)), (1, vR 0), (2, vR 279), (0, vS)] [] 303 (PP w2) M2 Q) : Go S yL_law cL_law 4 9 0 0 (some .boolean) 212 [(3, vI ((i : Nat) : Int)), (1, vR 0), (2, vR 279), (0, vS)] [] 303 (PP w) M Q := by
  refine go_aload_n 1 dL_law_212 rfl rfl ?_
  refine go_callVI (av := []) (st := []) (a := 0) (mc2 := 0) (ms2 := 0) dL_law_213 cwL_23 (by decide) rfl rfl (Nat.le_of_ble_eq_true rfl) rfl rfl kd_0 ⟨_, _, rfl⟩ (by decide) (by decide) (pr_fault h _ (fun z w1 M1 hk => ?_))
  refine go_aload_n 2 dL_law_216 rfl rfl ?_
  refine go_callVI (av := []) (st := [vI z]) (a := 279) (mc2 := 0) (ms2 := 0) dL_law_217 cwL_26 (by decide) rfl rfl (Nat.le_of_ble_eq_true rfl) rfl rfl kd_279 ⟨_, _, rfl⟩ (by decide) (by decide) (hk _ (fun w2 U2 M2 h2 hu => ?_))
  refine go_icmp_eq (tgt := 974) dL_law_220 rfl (fun _ => ?_) (fun c1 => absurd rfl c1)
  exact hn w2 U2 M2 h2 hu
set_option maxHeartbeats 4000000 in
set_option maxRecDepth 100000 in
theorem law_3 (hS : S.1 ≤ 256) (hi : i + 4 ≤ S.1) (h : Rel M M w U) (hU : U ≤ 50000) (hn : ∀ (w2 U2 : Nat) (M2 : inm), Rel M2 M2 w2 U2 → U2 ≤ U + 60 → Go S yL_law cL_law 4 9 0 0 (some .boolean) 974 [(3, vI ((i : Nat) : Int)), (1, vR 0), (2, vR 279), (0, vS)] [] 303 (PP w2) M2 Q) : Go S yL_law cL_law 4 9 0 0 (some .boolean) 225 [(3, vI ((i : Nat) : Int)), (1, vR 0), (2, vR 279), (0, vS)] [] 303 (PP w) M Q := by
  refine go_aload_n 1 dL_law_225 rfl rfl ?_
  refine go_aload_nS 3 dL_law_226 rfl rfl ?_
  refine go_iload_n 0 dL_law_227 rfl rfl ?_
  refine go_iconst dL_law_228 (by decide) ?_
  refine gx_iadd (v := ((i + 1 : Nat) : Int)) dL_law_229 (by omega) ⟨by omega, by omega⟩ ?_
  refine go_sload dL_law_230 rfl (by omega) (by omega) ?_
  refine go_callVI (av := [vI (S.2 (((i + 1 : Nat) : Int)).toNat).toInt]) (st := []) (a := 0) (mc2 := 0) (ms2 := 0) dL_law_231 cwL_27 (by decide) rfl rfl (Nat.le_of_ble_eq_true rfl) rfl rfl kd_0 ⟨_, _, rfl⟩ (by decide) (by decide) (pr_told h _ (fun z w1 M1 hk => ?_))
  refine go_aload_n 2 dL_law_234 rfl rfl ?_
  refine go_aload_nS 3 dL_law_235 rfl rfl ?_
  refine go_iload_n 0 dL_law_236 rfl rfl ?_
  refine go_iconst dL_law_237 (by decide) ?_
  refine gx_iadd (v := ((i + 1 : Nat) : Int)) dL_law_238 (by omega) ⟨by omega, by omega⟩ ?_
  refine go_sload dL_law_239 rfl (by omega) (by omega) ?_
  refine go_callVI (av := [vI (S.2 (((i + 1 : Nat) : Int)).toNat).toInt]) (st := [vI z]) (a := 279) (mc2 := 0) (ms2 := 0) dL_law_240 cwL_30 (by decide) rfl rfl (Nat.le_of_ble_eq_true rfl) rfl rfl kd_279 ⟨_, _, rfl⟩ (by decide) (by decide) (hk _ (fun w2 U2 M2 h2 hu => ?_))
  refine go_icmp_eq (tgt := 974) dL_law_243 rfl (fun _ => ?_) (fun c1 => absurd rfl c1)
  exact hn w2 U2 M2 h2 hu
set_option maxHeartbeats 4000000 in
set_option maxRecDepth 100000 in
theorem law_4 (hS : S.1 ≤ 256) (hi : i + 4 ≤ S.1) (h : Rel M M w U) (hU : U ≤ 50000) (hn : ∀ (w2 U2 : Nat) (M2 : inm), Rel M2 M2 w2 U2 → U2 ≤ U + 60 → Go S yL_law cL_law 4 9 0 0 (some .boolean) 974 [(3, vI ((i : Nat) : Int)), (1, vR 0), (2, vR 279), (0, vS)] [] 303 (PP w2) M2 Q) : Go S yL_law cL_law 4 9 0 0 (some .boolean) 248 [(3, vI ((i : Nat) : Int)), (1, vR 0), (2, vR 279), (0, vS)] [] 303 (PP w) M Q := by
  refine go_aload_n 1 dL_law_248 rfl rfl ?_
  refine go_aload_nS 3 dL_law_249 rfl rfl ?_
  refine go_iload_n 0 dL_law_250 rfl rfl ?_
  refine go_iconst dL_law_251 (by decide) ?_
  refine gx_iadd (v := ((i + 1 : Nat) : Int)) dL_law_252 (by omega) ⟨by omega, by omega⟩ ?_
  refine go_sload dL_law_253 rfl (by omega) (by omega) ?_
  refine go_aload_nS 3 dL_law_254 rfl rfl ?_
  refine go_iload_n 0 dL_law_255 rfl rfl ?_
  refine go_iconst dL_law_256 (by decide) ?_
  refine gx_iadd (v := ((i + 2 : Nat) : Int)) dL_law_257 (by omega) ⟨by omega, by omega⟩ ?_
  refine go_sload dL_law_258 rfl (by omega) (by omega) ?_
  refine go_callVI (av := [vI (S.2 (((i + 1 : Nat) : Int)).toNat).toInt, vI (S.2 (((i + 2 : Nat) : Int)).toNat).toInt]) (st := []) (a := 0) (mc2 := 0) (ms2 := 0) dL_law_259 cwL_31 (by decide) rfl rfl (Nat.le_of_ble_eq_true rfl) rfl rfl kd_0 ⟨_, _, rfl⟩ (by decide) (by decide) (pr_layer h _ (fun z w1 M1 hk => ?_))
  refine go_aload_n 2 dL_law_262 rfl rfl ?_
  refine go_aload_nS 3 dL_law_263 rfl rfl ?_
  refine go_iload_n 0 dL_law_264 rfl rfl ?_
  refine go_iconst dL_law_265 (by decide) ?_
  refine gx_iadd (v := ((i + 1 : Nat) : Int)) dL_law_266 (by omega) ⟨by omega, by omega⟩ ?_
  refine go_sload dL_law_267 rfl (by omega) (by omega) ?_
  refine go_aload_nS 3 dL_law_268 rfl rfl ?_
  refine go_iload_n 0 dL_law_269 rfl rfl ?_
  refine go_iconst dL_law_270 (by decide) ?_
  refine gx_iadd (v := ((i + 2 : Nat) : Int)) dL_law_271 (by omega) ⟨by omega, by omega⟩ ?_
  refine go_sload dL_law_272 rfl (by omega) (by omega) ?_
  refine go_callVI (av := [vI (S.2 (((i + 1 : Nat) : Int)).toNat).toInt, vI (S.2 (((i + 2 : Nat) : Int)).toNat).toInt]) (st := [vI z]) (a := 279) (mc2 := 0) (ms2 := 0) dL_law_273 cwL_35 (by decide) rfl rfl (Nat.le_of_ble_eq_true rfl) rfl rfl kd_279 ⟨_, _, rfl⟩ (by decide) (by decide) (hk _ (fun w2 U2 M2 h2 hu => ?_))
  refine go_icmp_eq (tgt := 974) dL_law_276 rfl (fun _ => ?_) (fun c1 => absurd rfl c1)
  exact hn w2 U2 M2 h2 hu
set_option maxHeartbeats 4000000 in
set_option maxRecDepth 100000 in
theorem law_5 (hS : S.1 ≤ 256) (hi : i + 4 ≤ S.1) (h : Rel M M w U) (hU : U ≤ 50000) (hn : ∀ (w2 U2 : Nat) (M2 : inm), Rel M2 M2 w2 U2 → U2 ≤ U + 60 → Go S yL_law cL_law 4 9 0 0 (some .boolean) 974 [(3, vI ((i : Nat) : Int)), (1, vR 0), (2, vR 279), (0, vS)] [] 303 (PP w2) M2 Q) : Go S yL_law cL_law 4 9 0 0 (some .boolean) 281 [(3, vI ((i : Nat) : Int)), (1, vR 0), (2, vR 279), (0, vS)] [] 303 (PP w) M Q := by
  refine go_aload_n 1 dL_law_281 rfl rfl ?_
  refine go_aload_nS 3 dL_law_282 rfl rfl ?_
  refine go_iload_n 0 dL_law_283 rfl rfl ?_
  refine go_iconst dL_law_284 (by decide) ?_
  refine gx_iadd (v := ((i + 1 : Nat) : Int)) dL_law_285 (by omega) ⟨by omega, by omega⟩ ?_
  refine go_sload dL_law_286 rfl (by omega) (by omega) ?_
  refine go_aload_nS 3 dL_law_287 rfl rfl ?_
  refine go_iload_n 0 dL_law_288 rfl rfl ?_
  refine go_iconst dL_law_289 (by decide) ?_
  refine gx_iadd (v := ((i + 2 : Nat) : Int)) dL_law_290 (by omega) ⟨by omega, by omega⟩ ?_
  refine go_sload dL_law_291 rfl (by omega) (by omega) ?_
  refine go_callVI (av := [vI (S.2 (((i + 1 : Nat) : Int)).toNat).toInt, vI (S.2 (((i + 2 : Nat) : Int)).toNat).toInt]) (st := []) (a := 0) (mc2 := 0) (ms2 := 0) dL_law_292 cwL_36 (by decide) rfl rfl (Nat.le_of_ble_eq_true rfl) rfl rfl kd_0 ⟨_, _, rfl⟩ (by decide) (by decide) (pr_executor h _ (fun z w1 M1 hk => ?_))
  refine go_aload_n 2 dL_law_295 rfl rfl ?_
  refine go_aload_nS 3 dL_law_296 rfl rfl ?_
  refine go_iload_n 0 dL_law_297 rfl rfl ?_
  refine go_iconst dL_law_298 (by decide) ?_
  refine gx_iadd (v := ((i + 1 : Nat) : Int)) dL_law_299 (by omega) ⟨by omega, by omega⟩ ?_
  refine go_sload dL_law_300 rfl (by omega) (by omega) ?_
  refine go_aload_nS 3 dL_law_301 rfl rfl ?_
  refine go_iload_n 0 dL_law_302 rfl rfl ?_
  refine go_iconst dL_law_303 (by decide) ?_
  refine gx_iadd (v := ((i + 2 : Nat) : Int)) dL_law_304 (by omega) ⟨by omega, by omega⟩ ?_
  refine go_sload dL_law_305 rfl (by omega) (by omega) ?_
  refine go_callVI (av := [vI (S.2 (((i + 1 : Nat) : Int)).toNat).toInt, vI (S.2 (((i + 2 : Nat) : Int)).toNat).toInt]) (st := [vI z]) (a := 279) (mc2 := 0) (ms2 := 0) dL_law_306 cwL_39 (by decide) rfl rfl (Nat.le_of_ble_eq_true rfl) rfl rfl kd_279 ⟨_, _, rfl⟩ (by decide) (by decide) (hk _ (fun w2 U2 M2 h2 hu => ?_))
  refine go_icmp_eq (tgt := 974) dL_law_309 rfl (fun _ => ?_) (fun c1 => absurd rfl c1)
  exact hn w2 U2 M2 h2 hu
set_option maxHeartbeats 4000000 in
set_option maxRecDepth 100000 in
theorem law_6 (hS : S.1 ≤ 256) (hi : i + 4 ≤ S.1) (h : Rel M M w U) (hU : U ≤ 50000) (hn : ∀ (w2 U2 : Nat) (M2 : inm), Rel M2 M2 w2 U2 → U2 ≤ U + 60 → Go S yL_law cL_law 4 9 0 0 (some .boolean) 974 [(3, vI ((i : Nat) : Int)), (1, vR 0), (2, vR 279), (0, vS)] [] 303 (PP w2) M2 Q) : Go S yL_law cL_law 4 9 0 0 (some .boolean) 314 [(3, vI ((i : Nat) : Int)), (1, vR 0), (2, vR 279), (0, vS)] [] 303 (PP w) M Q := by
  refine go_aload_n 1 dL_law_314 rfl rfl ?_
  refine go_aload_nS 3 dL_law_315 rfl rfl ?_
  refine go_iload_n 0 dL_law_316 rfl rfl ?_
  refine go_iconst dL_law_317 (by decide) ?_
  refine gx_iadd (v := ((i + 1 : Nat) : Int)) dL_law_318 (by omega) ⟨by omega, by omega⟩ ?_
  refine go_sload dL_law_319 rfl (by omega) (by omega) ?_
  refine go_aload_nS 3 dL_law_320 rfl rfl ?_
  refine go_iload_n 0 dL_law_321 rfl rfl ?_
  refine go_iconst dL_law_322 (by decide) ?_
  refine gx_iadd (v := ((i + 2 : Nat) : Int)) dL_law_323 (by omega) ⟨by omega, by omega⟩ ?_
  refine go_sload dL_law_324 rfl (by omega) (by omega) ?_
  refine go_callVI (av := [vI (S.2 (((i + 1 : Nat) : Int)).toNat).toInt, vI (S.2 (((i + 2 : Nat) : Int)).toNat).toInt]) (st := []) (a := 0) (mc2 := 0) (ms2 := 0) dL_law_325 cwL_40 (by decide) rfl rfl (Nat.le_of_ble_eq_true rfl) rfl rfl kd_0 ⟨_, _, rfl⟩ (by decide) (by decide) (pr_type h _ (fun z w1 M1 hk => ?_))
  refine go_aload_n 2 dL_law_328 rfl rfl ?_
  refine go_aload_nS 3 dL_law_329 rfl rfl ?_
  refine go_iload_n 0 dL_law_330 rfl rfl ?_
  refine go_iconst dL_law_331 (by decide) ?_
  refine gx_iadd (v := ((i + 1 : Nat) : Int)) dL_law_332 (by omega) ⟨by omega, by omega⟩ ?_
  refine go_sload dL_law_333 rfl (by omega) (by omega) ?_
  refine go_aload_nS 3 dL_law_334 rfl rfl ?_
  refine go_iload_n 0 dL_law_335 rfl rfl ?_
  refine go_iconst dL_law_336 (by decide) ?_
  refine gx_iadd (v := ((i + 2 : Nat) : Int)) dL_law_337 (by omega) ⟨by omega, by omega⟩ ?_
  refine go_sload dL_law_338 rfl (by omega) (by omega) ?_
  refine go_callVI (av := [vI (S.2 (((i + 1 : Nat) : Int)).toNat).toInt, vI (S.2 (((i + 2 : Nat) : Int)).toNat).toInt]) (st := [vI z]) (a := 279) (mc2 := 0) (ms2 := 0) dL_law_339 cwL_43 (by decide) rfl rfl (Nat.le_of_ble_eq_true rfl) rfl rfl kd_279 ⟨_, _, rfl⟩ (by decide) (by decide) (hk _ (fun w2 U2 M2 h2 hu => ?_))
  refine go_icmp_eq (tgt := 974) dL_law_342 rfl (fun _ => ?_) (fun c1 => absurd rfl c1)
  exact hn w2 U2 M2 h2 hu
set_option maxHeartbeats 4000000 in
set_option maxRecDepth 100000 in
theorem law_7 (hS : S.1 ≤ 256) (hi : i + 4 ≤ S.1) (h : Rel M M w U) (hU : U ≤ 50000) (hn : ∀ (w2 U2 : Nat) (M2 : inm), Rel M2 M2 w2 U2 → U2 ≤ U + 60 → Go S yL_law cL_law 4 9 0 0 (some .boolean) 974 [(3, vI ((i : Nat) : Int)), (1, vR 0), (2, vR 279), (0, vS)] [] 303 (PP w2) M2 Q) : Go S yL_law cL_law 4 9 0 0 (some .boolean) 347 [(3, vI ((i : Nat) : Int)), (1, vR 0), (2, vR 279), (0, vS)] [] 303 (PP w) M Q := by
  refine go_aload_n 1 dL_law_347 rfl rfl ?_
  refine go_aload_nS 3 dL_law_348 rfl rfl ?_
  refine go_iload_n 0 dL_law_349 rfl rfl ?_
  refine go_iconst dL_law_350 (by decide) ?_
  refine gx_iadd (v := ((i + 1 : Nat) : Int)) dL_law_351 (by omega) ⟨by omega, by omega⟩ ?_
  refine go_sload dL_law_352 rfl (by omega) (by omega) ?_
  refine go_aload_nS 3 dL_law_353 rfl rfl ?_
  refine go_iload_n 0 dL_law_354 rfl rfl ?_
  refine go_iconst dL_law_355 (by decide) ?_
  refine gx_iadd (v := ((i + 2 : Nat) : Int)) dL_law_356 (by omega) ⟨by omega, by omega⟩ ?_
  refine go_sload dL_law_357 rfl (by omega) (by omega) ?_
  refine go_callVI (av := [vI (S.2 (((i + 1 : Nat) : Int)).toNat).toInt, vI (S.2 (((i + 2 : Nat) : Int)).toNat).toInt]) (st := []) (a := 0) (mc2 := 0) (ms2 := 0) dL_law_358 cwL_44 (by decide) rfl rfl (Nat.le_of_ble_eq_true rfl) rfl rfl kd_0 ⟨_, _, rfl⟩ (by decide) (by decide) (pr_logged h _ (fun z w1 M1 hk => ?_))
  refine go_aload_n 2 dL_law_361 rfl rfl ?_
  refine go_aload_nS 3 dL_law_362 rfl rfl ?_
  refine go_iload_n 0 dL_law_363 rfl rfl ?_
  refine go_iconst dL_law_364 (by decide) ?_
  refine gx_iadd (v := ((i + 1 : Nat) : Int)) dL_law_365 (by omega) ⟨by omega, by omega⟩ ?_
  refine go_sload dL_law_366 rfl (by omega) (by omega) ?_
  refine go_aload_nS 3 dL_law_367 rfl rfl ?_
  refine go_iload_n 0 dL_law_368 rfl rfl ?_
  refine go_iconst dL_law_369 (by decide) ?_
  refine gx_iadd (v := ((i + 2 : Nat) : Int)) dL_law_370 (by omega) ⟨by omega, by omega⟩ ?_
  refine go_sload dL_law_371 rfl (by omega) (by omega) ?_
  refine go_callVI (av := [vI (S.2 (((i + 1 : Nat) : Int)).toNat).toInt, vI (S.2 (((i + 2 : Nat) : Int)).toNat).toInt]) (st := [vI z]) (a := 279) (mc2 := 0) (ms2 := 0) dL_law_372 cwL_47 (by decide) rfl rfl (Nat.le_of_ble_eq_true rfl) rfl rfl kd_279 ⟨_, _, rfl⟩ (by decide) (by decide) (hk _ (fun w2 U2 M2 h2 hu => ?_))
  refine go_icmp_eq (tgt := 974) dL_law_375 rfl (fun _ => ?_) (fun c1 => absurd rfl c1)
  exact hn w2 U2 M2 h2 hu
set_option maxHeartbeats 4000000 in
set_option maxRecDepth 100000 in
theorem law_8 (hS : S.1 ≤ 256) (hi : i + 4 ≤ S.1) (h : Rel M M w U) (hU : U ≤ 50000) (hn : ∀ (w2 U2 : Nat) (M2 : inm), Rel M2 M2 w2 U2 → U2 ≤ U + 60 → Go S yL_law cL_law 4 9 0 0 (some .boolean) 974 [(3, vI ((i : Nat) : Int)), (1, vR 0), (2, vR 279), (0, vS)] [] 303 (PP w2) M2 Q) : Go S yL_law cL_law 4 9 0 0 (some .boolean) 380 [(3, vI ((i : Nat) : Int)), (1, vR 0), (2, vR 279), (0, vS)] [] 303 (PP w) M Q := by
  refine go_aload_n 1 dL_law_380 rfl rfl ?_
  refine go_aload_nS 3 dL_law_381 rfl rfl ?_
  refine go_iload_n 0 dL_law_382 rfl rfl ?_
  refine go_iconst dL_law_383 (by decide) ?_
  refine gx_iadd (v := ((i + 1 : Nat) : Int)) dL_law_384 (by omega) ⟨by omega, by omega⟩ ?_
  refine go_sload dL_law_385 rfl (by omega) (by omega) ?_
  refine go_callVI (av := [vI (S.2 (((i + 1 : Nat) : Int)).toNat).toInt]) (st := []) (a := 0) (mc2 := 0) (ms2 := 0) dL_law_386 cwL_48 (by decide) rfl rfl (Nat.le_of_ble_eq_true rfl) rfl rfl kd_0 ⟨_, _, rfl⟩ (by decide) (by decide) (pr_peel h hU _ (fun z w1 M1 hk => ?_))
  refine go_aload_n 2 dL_law_389 rfl rfl ?_
  refine go_aload_nS 3 dL_law_390 rfl rfl ?_
  refine go_iload_n 0 dL_law_391 rfl rfl ?_
  refine go_iconst dL_law_392 (by decide) ?_
  refine gx_iadd (v := ((i + 1 : Nat) : Int)) dL_law_393 (by omega) ⟨by omega, by omega⟩ ?_
  refine go_sload dL_law_394 rfl (by omega) (by omega) ?_
  refine go_callVI (av := [vI (S.2 (((i + 1 : Nat) : Int)).toNat).toInt]) (st := [vI z]) (a := 279) (mc2 := 0) (ms2 := 0) dL_law_395 cwL_51 (by decide) rfl rfl (Nat.le_of_ble_eq_true rfl) rfl rfl kd_279 ⟨_, _, rfl⟩ (by decide) (by decide) (hk _ (fun w2 U2 M2 h2 hu => ?_))
  refine go_icmp_eq (tgt := 974) dL_law_398 rfl (fun _ => ?_) (fun c1 => absurd rfl c1)
  exact hn w2 U2 M2 h2 hu
set_option maxHeartbeats 4000000 in
set_option maxRecDepth 100000 in
theorem law_9 (hS : S.1 ≤ 256) (hi : i + 4 ≤ S.1) (h : Rel M M w U) (hU : U ≤ 50000) (hn : ∀ (w2 U2 : Nat) (M2 : inm), Rel M2 M2 w2 U2 → U2 ≤ U + 60 → Go S yL_law cL_law 4 9 0 0 (some .boolean) 974 [(3, vI ((i : Nat) : Int)), (1, vR 0), (2, vR 279), (0, vS)] [] 303 (PP w2) M2 Q) : Go S yL_law cL_law 4 9 0 0 (some .boolean) 403 [(3, vI ((i : Nat) : Int)), (1, vR 0), (2, vR 279), (0, vS)] [] 303 (PP w) M Q := by
  by_cases hz : (S.2 (((i + 1 : Nat) : Int)).toNat).toInt = 0
  · refine go_aload_n 1 dL_law_403 rfl rfl ?_
    refine go_aload_nS 3 dL_law_404 rfl rfl ?_
    refine go_iload_n 0 dL_law_405 rfl rfl ?_
    refine go_iconst dL_law_406 (by decide) ?_
    refine gx_iadd (v := ((i + 1 : Nat) : Int)) dL_law_407 (by omega) ⟨by omega, by omega⟩ ?_
    refine go_sload dL_law_408 rfl (by omega) (by omega) ?_
    refine go_if_eq (tgt := 416) dL_law_409 rfl (fun _ => ?_) (fun c1 => absurd hz c1)
    refine go_iconst dL_law_416 (by decide) ?_
    refine go_callVI (av := [vI 0]) (st := []) (a := 0) (mc2 := 0) (ms2 := 0) dL_law_417 cwL_52 (by decide) rfl rfl (Nat.le_of_ble_eq_true rfl) rfl rfl kd_0 ⟨_, _, rfl⟩ (by decide) (by decide) (pr_stop h (by decide) _ (fun z w1 M1 hk => ?_))
    refine go_aload_n 2 dL_law_420 rfl rfl ?_
    refine go_aload_nS 3 dL_law_421 rfl rfl ?_
    refine go_iload_n 0 dL_law_422 rfl rfl ?_
    refine go_iconst dL_law_423 (by decide) ?_
    refine gx_iadd (v := ((i + 1 : Nat) : Int)) dL_law_424 (by omega) ⟨by omega, by omega⟩ ?_
    refine go_sload dL_law_425 rfl (by omega) (by omega) ?_
    refine go_if_eq (tgt := 433) dL_law_426 rfl (fun _ => ?_) (fun c1 => absurd hz c1)
    refine go_iconst dL_law_433 (by decide) ?_
    refine go_callVI (av := [vI 0]) (st := [vI z]) (a := 279) (mc2 := 0) (ms2 := 0) dL_law_434 cwL_56 (by decide) rfl rfl (Nat.le_of_ble_eq_true rfl) rfl rfl kd_279 ⟨_, _, rfl⟩ (by decide) (by decide) (hk _ (fun w2 U2 M2 h2 hu => ?_))
    refine go_icmp_eq (tgt := 974) dL_law_437 rfl (fun _ => ?_) (fun c1 => absurd rfl c1)
    exact hn w2 U2 M2 h2 hu
  · refine go_aload_n 1 dL_law_403 rfl rfl ?_
    refine go_aload_nS 3 dL_law_404 rfl rfl ?_
    refine go_iload_n 0 dL_law_405 rfl rfl ?_
    refine go_iconst dL_law_406 (by decide) ?_
    refine gx_iadd (v := ((i + 1 : Nat) : Int)) dL_law_407 (by omega) ⟨by omega, by omega⟩ ?_
    refine go_sload dL_law_408 rfl (by omega) (by omega) ?_
    refine go_if_eq (tgt := 416) dL_law_409 rfl (fun c1 => absurd c1 hz) (fun _ => ?_)
    refine go_iconst dL_law_412 (by decide) ?_
    refine go_goto (tgt := 417) dL_law_413 rfl ?_
    refine go_callVI (av := [vI 1]) (st := []) (a := 0) (mc2 := 0) (ms2 := 0) dL_law_417 cwL_52 (by decide) rfl rfl (Nat.le_of_ble_eq_true rfl) rfl rfl kd_0 ⟨_, _, rfl⟩ (by decide) (by decide) (pr_stop h (by decide) _ (fun z w1 M1 hk => ?_))
    refine go_aload_n 2 dL_law_420 rfl rfl ?_
    refine go_aload_nS 3 dL_law_421 rfl rfl ?_
    refine go_iload_n 0 dL_law_422 rfl rfl ?_
    refine go_iconst dL_law_423 (by decide) ?_
    refine gx_iadd (v := ((i + 1 : Nat) : Int)) dL_law_424 (by omega) ⟨by omega, by omega⟩ ?_
    refine go_sload dL_law_425 rfl (by omega) (by omega) ?_
    refine go_if_eq (tgt := 433) dL_law_426 rfl (fun c1 => absurd c1 hz) (fun _ => ?_)
    refine go_iconst dL_law_429 (by decide) ?_
    refine go_goto (tgt := 434) dL_law_430 rfl ?_
    refine go_callVI (av := [vI 1]) (st := [vI z]) (a := 279) (mc2 := 0) (ms2 := 0) dL_law_434 cwL_56 (by decide) rfl rfl (Nat.le_of_ble_eq_true rfl) rfl rfl kd_279 ⟨_, _, rfl⟩ (by decide) (by decide) (hk _ (fun w2 U2 M2 h2 hu => ?_))
    refine go_icmp_eq (tgt := 974) dL_law_437 rfl (fun _ => ?_) (fun c1 => absurd rfl c1)
    exact hn w2 U2 M2 h2 hu
set_option maxHeartbeats 4000000 in
set_option maxRecDepth 100000 in
theorem law_10 (hS : S.1 ≤ 256) (hi : i + 4 ≤ S.1) (h : Rel M M w U) (hU : U ≤ 50000) (hn : ∀ (w2 U2 : Nat) (M2 : inm), Rel M2 M2 w2 U2 → U2 ≤ U + 60 → Go S yL_law cL_law 4 9 0 0 (some .boolean) 974 [(3, vI ((i : Nat) : Int)), (1, vR 0), (2, vR 279), (0, vS)] [] 303 (PP w2) M2 Q) : Go S yL_law cL_law 4 9 0 0 (some .boolean) 442 [(3, vI ((i : Nat) : Int)), (1, vR 0), (2, vR 279), (0, vS)] [] 303 (PP w) M Q := by
  refine go_aload_n 1 dL_law_442 rfl rfl ?_
  refine go_callVI (av := []) (st := []) (a := 0) (mc2 := 0) (ms2 := 0) dL_law_443 cwL_57 (by decide) rfl rfl (Nat.le_of_ble_eq_true rfl) rfl rfl kd_0 ⟨_, _, rfl⟩ (by decide) (by decide) (pr_visit h _ (fun z w1 M1 hk => ?_))
  refine go_aload_n 2 dL_law_446 rfl rfl ?_
  refine go_callVI (av := []) (st := [vI z]) (a := 279) (mc2 := 0) (ms2 := 0) dL_law_447 cwL_60 (by decide) rfl rfl (Nat.le_of_ble_eq_true rfl) rfl rfl kd_279 ⟨_, _, rfl⟩ (by decide) (by decide) (hk _ (fun w2 U2 M2 h2 hu => ?_))
  refine go_icmp_eq (tgt := 974) dL_law_450 rfl (fun _ => ?_) (fun c1 => absurd rfl c1)
  exact hn w2 U2 M2 h2 hu
set_option maxHeartbeats 4000000 in
set_option maxRecDepth 100000 in
theorem law_11 (hS : S.1 ≤ 256) (hi : i + 4 ≤ S.1) (h : Rel M M w U) (hU : U ≤ 50000) (hn : ∀ (w2 U2 : Nat) (M2 : inm), Rel M2 M2 w2 U2 → U2 ≤ U + 60 → Go S yL_law cL_law 4 9 0 0 (some .boolean) 974 [(3, vI ((i : Nat) : Int)), (1, vR 0), (2, vR 279), (0, vS)] [] 303 (PP w2) M2 Q) : Go S yL_law cL_law 4 9 0 0 (some .boolean) 455 [(3, vI ((i : Nat) : Int)), (1, vR 0), (2, vR 279), (0, vS)] [] 303 (PP w) M Q := by
  refine go_aload_n 1 dL_law_455 rfl rfl ?_
  refine go_aload_nS 3 dL_law_456 rfl rfl ?_
  refine go_iload_n 0 dL_law_457 rfl rfl ?_
  refine go_iconst dL_law_458 (by decide) ?_
  refine gx_iadd (v := ((i + 1 : Nat) : Int)) dL_law_459 (by omega) ⟨by omega, by omega⟩ ?_
  refine go_sload dL_law_460 rfl (by omega) (by omega) ?_
  refine go_callVI (av := [vI (S.2 (((i + 1 : Nat) : Int)).toNat).toInt]) (st := []) (a := 0) (mc2 := 0) (ms2 := 0) dL_law_461 cwL_61 (by decide) rfl rfl (Nat.le_of_ble_eq_true rfl) rfl rfl kd_0 ⟨_, _, rfl⟩ (by decide) (by decide) (pr_year h hU _ (fun z w1 M1 hk => ?_))
  refine go_aload_n 2 dL_law_464 rfl rfl ?_
  refine go_aload_nS 3 dL_law_465 rfl rfl ?_
  refine go_iload_n 0 dL_law_466 rfl rfl ?_
  refine go_iconst dL_law_467 (by decide) ?_
  refine gx_iadd (v := ((i + 1 : Nat) : Int)) dL_law_468 (by omega) ⟨by omega, by omega⟩ ?_
  refine go_sload dL_law_469 rfl (by omega) (by omega) ?_
  refine go_callVI (av := [vI (S.2 (((i + 1 : Nat) : Int)).toNat).toInt]) (st := [vI z]) (a := 279) (mc2 := 0) (ms2 := 0) dL_law_470 cwL_64 (by decide) rfl rfl (Nat.le_of_ble_eq_true rfl) rfl rfl kd_279 ⟨_, _, rfl⟩ (by decide) (by decide) (hk _ (fun w2 U2 M2 h2 hu => ?_))
  refine go_icmp_eq (tgt := 974) dL_law_473 rfl (fun _ => ?_) (fun c1 => absurd rfl c1)
  exact hn w2 U2 M2 h2 hu
set_option maxHeartbeats 4000000 in
set_option maxRecDepth 100000 in
theorem law_12 (hS : S.1 ≤ 256) (hi : i + 4 ≤ S.1) (h : Rel M M w U) (hU : U ≤ 50000) (hn : ∀ (w2 U2 : Nat) (M2 : inm), Rel M2 M2 w2 U2 → U2 ≤ U + 60 → Go S yL_law cL_law 4 9 0 0 (some .boolean) 974 [(3, vI ((i : Nat) : Int)), (1, vR 0), (2, vR 279), (0, vS)] [] 303 (PP w2) M2 Q) : Go S yL_law cL_law 4 9 0 0 (some .boolean) 478 [(3, vI ((i : Nat) : Int)), (1, vR 0), (2, vR 279), (0, vS)] [] 303 (PP w) M Q := by
  refine go_aload_n 1 dL_law_478 rfl rfl ?_
  refine go_aload_nS 3 dL_law_479 rfl rfl ?_
  refine go_iload_n 0 dL_law_480 rfl rfl ?_
  refine go_iconst dL_law_481 (by decide) ?_
  refine gx_iadd (v := ((i + 1 : Nat) : Int)) dL_law_482 (by omega) ⟨by omega, by omega⟩ ?_
  refine go_sload dL_law_483 rfl (by omega) (by omega) ?_
  refine go_callVI (av := [vI (S.2 (((i + 1 : Nat) : Int)).toNat).toInt]) (st := []) (a := 0) (mc2 := 0) (ms2 := 0) dL_law_484 cwL_65 (by decide) rfl rfl (Nat.le_of_ble_eq_true rfl) rfl rfl kd_0 ⟨_, _, rfl⟩ (by decide) (by decide) (pr_drift h hU _ (fun z w1 M1 hk => ?_))
  refine go_aload_n 2 dL_law_487 rfl rfl ?_
  refine go_aload_nS 3 dL_law_488 rfl rfl ?_
  refine go_iload_n 0 dL_law_489 rfl rfl ?_
  refine go_iconst dL_law_490 (by decide) ?_
  refine gx_iadd (v := ((i + 1 : Nat) : Int)) dL_law_491 (by omega) ⟨by omega, by omega⟩ ?_
  refine go_sload dL_law_492 rfl (by omega) (by omega) ?_
  refine go_callVI (av := [vI (S.2 (((i + 1 : Nat) : Int)).toNat).toInt]) (st := [vI z]) (a := 279) (mc2 := 0) (ms2 := 0) dL_law_493 cwL_68 (by decide) rfl rfl (Nat.le_of_ble_eq_true rfl) rfl rfl kd_279 ⟨_, _, rfl⟩ (by decide) (by decide) (hk _ (fun w2 U2 M2 h2 hu => ?_))
  refine go_icmp_eq (tgt := 974) dL_law_496 rfl (fun _ => ?_) (fun c1 => absurd rfl c1)
  exact hn w2 U2 M2 h2 hu
set_option maxHeartbeats 4000000 in
set_option maxRecDepth 100000 in
theorem law_13 (hS : S.1 ≤ 256) (hi : i + 4 ≤ S.1) (h : Rel M M w U) (hU : U ≤ 50000) (hn : ∀ (w2 U2 : Nat) (M2 : inm), Rel M2 M2 w2 U2 → U2 ≤ U + 60 → Go S yL_law cL_law 4 9 0 0 (some .boolean) 974 [(3, vI ((i : Nat) : Int)), (1, vR 0), (2, vR 279), (0, vS)] [] 303 (PP w2) M2 Q) : Go S yL_law cL_law 4 9 0 0 (some .boolean) 501 [(3, vI ((i : Nat) : Int)), (1, vR 0), (2, vR 279), (0, vS)] [] 303 (PP w) M Q := by
  refine go_aload_n 1 dL_law_501 rfl rfl ?_
  refine go_aload_nS 3 dL_law_502 rfl rfl ?_
  refine go_iload_n 0 dL_law_503 rfl rfl ?_
  refine go_iconst dL_law_504 (by decide) ?_
  refine gx_iadd (v := ((i + 1 : Nat) : Int)) dL_law_505 (by omega) ⟨by omega, by omega⟩ ?_
  refine go_sload dL_law_506 rfl (by omega) (by omega) ?_
  refine go_callVI (av := [vI (S.2 (((i + 1 : Nat) : Int)).toNat).toInt]) (st := []) (a := 0) (mc2 := 0) (ms2 := 0) dL_law_507 cwL_69 (by decide) rfl rfl (Nat.le_of_ble_eq_true rfl) rfl rfl kd_0 ⟨_, _, rfl⟩ (by decide) (by decide) (pr_undo h _ (fun z w1 M1 hk => ?_))
  refine go_aload_n 2 dL_law_510 rfl rfl ?_
  refine go_aload_nS 3 dL_law_511 rfl rfl ?_
  refine go_iload_n 0 dL_law_512 rfl rfl ?_
  refine go_iconst dL_law_513 (by decide) ?_
  refine gx_iadd (v := ((i + 1 : Nat) : Int)) dL_law_514 (by omega) ⟨by omega, by omega⟩ ?_
  refine go_sload dL_law_515 rfl (by omega) (by omega) ?_
  refine go_callVI (av := [vI (S.2 (((i + 1 : Nat) : Int)).toNat).toInt]) (st := [vI z]) (a := 279) (mc2 := 0) (ms2 := 0) dL_law_516 cwL_72 (by decide) rfl rfl (Nat.le_of_ble_eq_true rfl) rfl rfl kd_279 ⟨_, _, rfl⟩ (by decide) (by decide) (hk _ (fun w2 U2 M2 h2 hu => ?_))
  refine go_icmp_eq (tgt := 974) dL_law_519 rfl (fun _ => ?_) (fun c1 => absurd rfl c1)
  exact hn w2 U2 M2 h2 hu
set_option maxHeartbeats 4000000 in
set_option maxRecDepth 100000 in
theorem law_14 (hS : S.1 ≤ 256) (hi : i + 4 ≤ S.1) (h : Rel M M w U) (hU : U ≤ 50000) (hn : ∀ (w2 U2 : Nat) (M2 : inm), Rel M2 M2 w2 U2 → U2 ≤ U + 60 → Go S yL_law cL_law 4 9 0 0 (some .boolean) 974 [(3, vI ((i : Nat) : Int)), (1, vR 0), (2, vR 279), (0, vS)] [] 303 (PP w2) M2 Q) : Go S yL_law cL_law 4 9 0 0 (some .boolean) 524 [(3, vI ((i : Nat) : Int)), (1, vR 0), (2, vR 279), (0, vS)] [] 303 (PP w) M Q := by
  refine go_aload_n 1 dL_law_524 rfl rfl ?_
  refine go_aload_nS 3 dL_law_525 rfl rfl ?_
  refine go_iload_n 0 dL_law_526 rfl rfl ?_
  refine go_iconst dL_law_527 (by decide) ?_
  refine gx_iadd (v := ((i + 1 : Nat) : Int)) dL_law_528 (by omega) ⟨by omega, by omega⟩ ?_
  refine go_sload dL_law_529 rfl (by omega) (by omega) ?_
  refine go_aload_nS 3 dL_law_530 rfl rfl ?_
  refine go_iload_n 0 dL_law_531 rfl rfl ?_
  refine go_iconst dL_law_532 (by decide) ?_
  refine gx_iadd (v := ((i + 2 : Nat) : Int)) dL_law_533 (by omega) ⟨by omega, by omega⟩ ?_
  refine go_sload dL_law_534 rfl (by omega) (by omega) ?_
  refine go_callVI (av := [vI (S.2 (((i + 1 : Nat) : Int)).toNat).toInt, vI (S.2 (((i + 2 : Nat) : Int)).toNat).toInt]) (st := []) (a := 0) (mc2 := 0) (ms2 := 0) dL_law_535 cwL_73 (by decide) rfl rfl (Nat.le_of_ble_eq_true rfl) rfl rfl kd_0 ⟨_, _, rfl⟩ (by decide) (by decide) (pr_worthIt h _ (fun z w1 M1 hk => ?_))
  refine go_aload_n 2 dL_law_538 rfl rfl ?_
  refine go_aload_nS 3 dL_law_539 rfl rfl ?_
  refine go_iload_n 0 dL_law_540 rfl rfl ?_
  refine go_iconst dL_law_541 (by decide) ?_
  refine gx_iadd (v := ((i + 1 : Nat) : Int)) dL_law_542 (by omega) ⟨by omega, by omega⟩ ?_
  refine go_sload dL_law_543 rfl (by omega) (by omega) ?_
  refine go_aload_nS 3 dL_law_544 rfl rfl ?_
  refine go_iload_n 0 dL_law_545 rfl rfl ?_
  refine go_iconst dL_law_546 (by decide) ?_
  refine gx_iadd (v := ((i + 2 : Nat) : Int)) dL_law_547 (by omega) ⟨by omega, by omega⟩ ?_
  refine go_sload dL_law_548 rfl (by omega) (by omega) ?_
  refine go_callVI (av := [vI (S.2 (((i + 1 : Nat) : Int)).toNat).toInt, vI (S.2 (((i + 2 : Nat) : Int)).toNat).toInt]) (st := [vI z]) (a := 279) (mc2 := 0) (ms2 := 0) dL_law_549 cwL_76 (by decide) rfl rfl (Nat.le_of_ble_eq_true rfl) rfl rfl kd_279 ⟨_, _, rfl⟩ (by decide) (by decide) (hk _ (fun w2 U2 M2 h2 hu => ?_))
  refine go_icmp_eq (tgt := 974) dL_law_552 rfl (fun _ => ?_) (fun c1 => absurd rfl c1)
  exact hn w2 U2 M2 h2 hu
set_option maxHeartbeats 4000000 in
set_option maxRecDepth 100000 in
theorem law_15 (hS : S.1 ≤ 256) (hi : i + 4 ≤ S.1) (h : Rel M M w U) (hU : U ≤ 50000) (hn : ∀ (w2 U2 : Nat) (M2 : inm), Rel M2 M2 w2 U2 → U2 ≤ U + 60 → Go S yL_law cL_law 4 9 0 0 (some .boolean) 974 [(3, vI ((i : Nat) : Int)), (1, vR 0), (2, vR 279), (0, vS)] [] 303 (PP w2) M2 Q) : Go S yL_law cL_law 4 9 0 0 (some .boolean) 557 [(3, vI ((i : Nat) : Int)), (1, vR 0), (2, vR 279), (0, vS)] [] 303 (PP w) M Q := by
  refine go_aload_n 1 dL_law_557 rfl rfl ?_
  refine go_aload_nS 3 dL_law_558 rfl rfl ?_
  refine go_iload_n 0 dL_law_559 rfl rfl ?_
  refine go_iconst dL_law_560 (by decide) ?_
  refine gx_iadd (v := ((i + 1 : Nat) : Int)) dL_law_561 (by omega) ⟨by omega, by omega⟩ ?_
  refine go_sload dL_law_562 rfl (by omega) (by omega) ?_
  refine go_aload_nS 3 dL_law_563 rfl rfl ?_
  refine go_iload_n 0 dL_law_564 rfl rfl ?_
  refine go_iconst dL_law_565 (by decide) ?_
  refine gx_iadd (v := ((i + 2 : Nat) : Int)) dL_law_566 (by omega) ⟨by omega, by omega⟩ ?_
  refine go_sload dL_law_567 rfl (by omega) (by omega) ?_
  refine go_callVI (av := [vI (S.2 (((i + 1 : Nat) : Int)).toNat).toInt, vI (S.2 (((i + 2 : Nat) : Int)).toNat).toInt]) (st := []) (a := 0) (mc2 := 0) (ms2 := 0) dL_law_568 cwL_77 (by decide) rfl rfl (Nat.le_of_ble_eq_true rfl) rfl rfl kd_0 ⟨_, _, rfl⟩ (by decide) (by decide) (pr_parts h _ (fun z w1 M1 hk => ?_))
  refine go_aload_n 2 dL_law_571 rfl rfl ?_
  refine go_aload_nS 3 dL_law_572 rfl rfl ?_
  refine go_iload_n 0 dL_law_573 rfl rfl ?_
  refine go_iconst dL_law_574 (by decide) ?_
  refine gx_iadd (v := ((i + 1 : Nat) : Int)) dL_law_575 (by omega) ⟨by omega, by omega⟩ ?_
  refine go_sload dL_law_576 rfl (by omega) (by omega) ?_
  refine go_aload_nS 3 dL_law_577 rfl rfl ?_
  refine go_iload_n 0 dL_law_578 rfl rfl ?_
  refine go_iconst dL_law_579 (by decide) ?_
  refine gx_iadd (v := ((i + 2 : Nat) : Int)) dL_law_580 (by omega) ⟨by omega, by omega⟩ ?_
  refine go_sload dL_law_581 rfl (by omega) (by omega) ?_
  refine go_callVI (av := [vI (S.2 (((i + 1 : Nat) : Int)).toNat).toInt, vI (S.2 (((i + 2 : Nat) : Int)).toNat).toInt]) (st := [vI z]) (a := 279) (mc2 := 0) (ms2 := 0) dL_law_582 cwL_80 (by decide) rfl rfl (Nat.le_of_ble_eq_true rfl) rfl rfl kd_279 ⟨_, _, rfl⟩ (by decide) (by decide) (hk _ (fun w2 U2 M2 h2 hu => ?_))
  refine go_icmp_eq (tgt := 974) dL_law_585 rfl (fun _ => ?_) (fun c1 => absurd rfl c1)
  exact hn w2 U2 M2 h2 hu
set_option maxHeartbeats 4000000 in
set_option maxRecDepth 100000 in
theorem law_16 (hS : S.1 ≤ 256) (hi : i + 4 ≤ S.1) (h : Rel M M w U) (hU : U ≤ 50000) (hn : ∀ (w2 U2 : Nat) (M2 : inm), Rel M2 M2 w2 U2 → U2 ≤ U + 60 → Go S yL_law cL_law 4 9 0 0 (some .boolean) 974 [(3, vI ((i : Nat) : Int)), (1, vR 0), (2, vR 279), (0, vS)] [] 303 (PP w2) M2 Q) : Go S yL_law cL_law 4 9 0 0 (some .boolean) 590 [(3, vI ((i : Nat) : Int)), (1, vR 0), (2, vR 279), (0, vS)] [] 303 (PP w) M Q := by
  refine go_aload_n 1 dL_law_590 rfl rfl ?_
  refine go_aload_nS 3 dL_law_591 rfl rfl ?_
  refine go_iload_n 0 dL_law_592 rfl rfl ?_
  refine go_iconst dL_law_593 (by decide) ?_
  refine gx_iadd (v := ((i + 1 : Nat) : Int)) dL_law_594 (by omega) ⟨by omega, by omega⟩ ?_
  refine go_sload dL_law_595 rfl (by omega) (by omega) ?_
  refine go_callVI (av := [vI (S.2 (((i + 1 : Nat) : Int)).toNat).toInt]) (st := []) (a := 0) (mc2 := 0) (ms2 := 0) dL_law_596 cwL_81 (by decide) rfl rfl (Nat.le_of_ble_eq_true rfl) rfl rfl kd_0 ⟨_, _, rfl⟩ (by decide) (by decide) (pr_byTurns h _ (fun z w1 M1 hk => ?_))
  refine go_aload_n 2 dL_law_599 rfl rfl ?_
  refine go_aload_nS 3 dL_law_600 rfl rfl ?_
  refine go_iload_n 0 dL_law_601 rfl rfl ?_
  refine go_iconst dL_law_602 (by decide) ?_
  refine gx_iadd (v := ((i + 1 : Nat) : Int)) dL_law_603 (by omega) ⟨by omega, by omega⟩ ?_
  refine go_sload dL_law_604 rfl (by omega) (by omega) ?_
  refine go_callVI (av := [vI (S.2 (((i + 1 : Nat) : Int)).toNat).toInt]) (st := [vI z]) (a := 279) (mc2 := 0) (ms2 := 0) dL_law_605 cwL_84 (by decide) rfl rfl (Nat.le_of_ble_eq_true rfl) rfl rfl kd_279 ⟨_, _, rfl⟩ (by decide) (by decide) (hk _ (fun w2 U2 M2 h2 hu => ?_))
  refine go_icmp_eq (tgt := 974) dL_law_608 rfl (fun _ => ?_) (fun c1 => absurd rfl c1)
  exact hn w2 U2 M2 h2 hu
set_option maxHeartbeats 4000000 in
set_option maxRecDepth 100000 in
theorem law_17 (hS : S.1 ≤ 256) (hi : i + 4 ≤ S.1) (h : Rel M M w U) (hU : U ≤ 50000) (hn : ∀ (w2 U2 : Nat) (M2 : inm), Rel M2 M2 w2 U2 → U2 ≤ U + 60 → Go S yL_law cL_law 4 9 0 0 (some .boolean) 974 [(3, vI ((i : Nat) : Int)), (1, vR 0), (2, vR 279), (0, vS)] [] 303 (PP w2) M2 Q) : Go S yL_law cL_law 4 9 0 0 (some .boolean) 613 [(3, vI ((i : Nat) : Int)), (1, vR 0), (2, vR 279), (0, vS)] [] 303 (PP w) M Q := by
  refine go_aload_n 1 dL_law_613 rfl rfl ?_
  refine go_aload_nS 3 dL_law_614 rfl rfl ?_
  refine go_iload_n 0 dL_law_615 rfl rfl ?_
  refine go_iconst dL_law_616 (by decide) ?_
  refine gx_iadd (v := ((i + 1 : Nat) : Int)) dL_law_617 (by omega) ⟨by omega, by omega⟩ ?_
  refine go_sload dL_law_618 rfl (by omega) (by omega) ?_
  refine go_callVI (av := [vI (S.2 (((i + 1 : Nat) : Int)).toNat).toInt]) (st := []) (a := 0) (mc2 := 0) (ms2 := 0) dL_law_619 cwL_85 (by decide) rfl rfl (Nat.le_of_ble_eq_true rfl) rfl rfl kd_0 ⟨_, _, rfl⟩ (by decide) (by decide) (pr_twoSides h _ (fun z w1 M1 hk => ?_))
  refine go_aload_n 2 dL_law_622 rfl rfl ?_
  refine go_aload_nS 3 dL_law_623 rfl rfl ?_
  refine go_iload_n 0 dL_law_624 rfl rfl ?_
  refine go_iconst dL_law_625 (by decide) ?_
  refine gx_iadd (v := ((i + 1 : Nat) : Int)) dL_law_626 (by omega) ⟨by omega, by omega⟩ ?_
  refine go_sload dL_law_627 rfl (by omega) (by omega) ?_
  refine go_callVI (av := [vI (S.2 (((i + 1 : Nat) : Int)).toNat).toInt]) (st := [vI z]) (a := 279) (mc2 := 0) (ms2 := 0) dL_law_628 cwL_88 (by decide) rfl rfl (Nat.le_of_ble_eq_true rfl) rfl rfl kd_279 ⟨_, _, rfl⟩ (by decide) (by decide) (hk _ (fun w2 U2 M2 h2 hu => ?_))
  refine go_icmp_eq (tgt := 974) dL_law_631 rfl (fun _ => ?_) (fun c1 => absurd rfl c1)
  exact hn w2 U2 M2 h2 hu
set_option maxHeartbeats 4000000 in
set_option maxRecDepth 100000 in
theorem law_18 (hS : S.1 ≤ 256) (hi : i + 4 ≤ S.1) (h : Rel M M w U) (hU : U ≤ 50000) (hn : ∀ (w2 U2 : Nat) (M2 : inm), Rel M2 M2 w2 U2 → U2 ≤ U + 60 → Go S yL_law cL_law 4 9 0 0 (some .boolean) 974 [(3, vI ((i : Nat) : Int)), (1, vR 0), (2, vR 279), (0, vS)] [] 303 (PP w2) M2 Q) : Go S yL_law cL_law 4 9 0 0 (some .boolean) 636 [(3, vI ((i : Nat) : Int)), (1, vR 0), (2, vR 279), (0, vS)] [] 303 (PP w) M Q := by
  refine go_aload_n 1 dL_law_636 rfl rfl ?_
  refine go_aload_nS 3 dL_law_637 rfl rfl ?_
  refine go_iload_n 0 dL_law_638 rfl rfl ?_
  refine go_iconst dL_law_639 (by decide) ?_
  refine gx_iadd (v := ((i + 1 : Nat) : Int)) dL_law_640 (by omega) ⟨by omega, by omega⟩ ?_
  refine go_sload dL_law_641 rfl (by omega) (by omega) ?_
  refine go_callVI (av := [vI (S.2 (((i + 1 : Nat) : Int)).toNat).toInt]) (st := []) (a := 0) (mc2 := 0) (ms2 := 0) dL_law_642 cwL_89 (by decide) rfl rfl (Nat.le_of_ble_eq_true rfl) rfl rfl kd_0 ⟨_, _, rfl⟩ (by decide) (by decide) (pr_nextKind h _ (fun z w1 M1 hk => ?_))
  refine go_aload_n 2 dL_law_645 rfl rfl ?_
  refine go_aload_nS 3 dL_law_646 rfl rfl ?_
  refine go_iload_n 0 dL_law_647 rfl rfl ?_
  refine go_iconst dL_law_648 (by decide) ?_
  refine gx_iadd (v := ((i + 1 : Nat) : Int)) dL_law_649 (by omega) ⟨by omega, by omega⟩ ?_
  refine go_sload dL_law_650 rfl (by omega) (by omega) ?_
  refine go_callVI (av := [vI (S.2 (((i + 1 : Nat) : Int)).toNat).toInt]) (st := [vI z]) (a := 279) (mc2 := 0) (ms2 := 0) dL_law_651 cwL_92 (by decide) rfl rfl (Nat.le_of_ble_eq_true rfl) rfl rfl kd_279 ⟨_, _, rfl⟩ (by decide) (by decide) (hk _ (fun w2 U2 M2 h2 hu => ?_))
  refine go_icmp_eq (tgt := 974) dL_law_654 rfl (fun _ => ?_) (fun c1 => absurd rfl c1)
  exact hn w2 U2 M2 h2 hu
set_option maxHeartbeats 4000000 in
set_option maxRecDepth 100000 in
theorem law_19 (hS : S.1 ≤ 256) (hi : i + 4 ≤ S.1) (h : Rel M M w U) (hU : U ≤ 50000) (hn : ∀ (w2 U2 : Nat) (M2 : inm), Rel M2 M2 w2 U2 → U2 ≤ U + 60 → Go S yL_law cL_law 4 9 0 0 (some .boolean) 974 [(3, vI ((i : Nat) : Int)), (1, vR 0), (2, vR 279), (0, vS)] [] 303 (PP w2) M2 Q) : Go S yL_law cL_law 4 9 0 0 (some .boolean) 659 [(3, vI ((i : Nat) : Int)), (1, vR 0), (2, vR 279), (0, vS)] [] 303 (PP w) M Q := by
  refine go_aload_n 1 dL_law_659 rfl rfl ?_
  refine go_aload_nS 3 dL_law_660 rfl rfl ?_
  refine go_iload_n 0 dL_law_661 rfl rfl ?_
  refine go_iconst dL_law_662 (by decide) ?_
  refine gx_iadd (v := ((i + 1 : Nat) : Int)) dL_law_663 (by omega) ⟨by omega, by omega⟩ ?_
  refine go_sload dL_law_664 rfl (by omega) (by omega) ?_
  refine go_callVI (av := [vI (S.2 (((i + 1 : Nat) : Int)).toNat).toInt]) (st := []) (a := 0) (mc2 := 0) (ms2 := 0) dL_law_665 cwL_93 (by decide) rfl rfl (Nat.le_of_ble_eq_true rfl) rfl rfl kd_0 ⟨_, _, rfl⟩ (by decide) (by decide) (pr_allows h _ (fun z w1 M1 hk => ?_))
  refine go_aload_n 2 dL_law_668 rfl rfl ?_
  refine go_aload_nS 3 dL_law_669 rfl rfl ?_
  refine go_iload_n 0 dL_law_670 rfl rfl ?_
  refine go_iconst dL_law_671 (by decide) ?_
  refine gx_iadd (v := ((i + 1 : Nat) : Int)) dL_law_672 (by omega) ⟨by omega, by omega⟩ ?_
  refine go_sload dL_law_673 rfl (by omega) (by omega) ?_
  refine go_callVI (av := [vI (S.2 (((i + 1 : Nat) : Int)).toNat).toInt]) (st := [vI z]) (a := 279) (mc2 := 0) (ms2 := 0) dL_law_674 cwL_96 (by decide) rfl rfl (Nat.le_of_ble_eq_true rfl) rfl rfl kd_279 ⟨_, _, rfl⟩ (by decide) (by decide) (hk _ (fun w2 U2 M2 h2 hu => ?_))
  refine go_icmp_eq (tgt := 974) dL_law_677 rfl (fun _ => ?_) (fun c1 => absurd rfl c1)
  exact hn w2 U2 M2 h2 hu
set_option maxHeartbeats 4000000 in
set_option maxRecDepth 100000 in
theorem law_20 (hS : S.1 ≤ 256) (hi : i + 4 ≤ S.1) (h : Rel M M w U) (hU : U ≤ 50000) (hn : ∀ (w2 U2 : Nat) (M2 : inm), Rel M2 M2 w2 U2 → U2 ≤ U + 60 → Go S yL_law cL_law 4 9 0 0 (some .boolean) 974 [(3, vI ((i : Nat) : Int)), (1, vR 0), (2, vR 279), (0, vS)] [] 303 (PP w2) M2 Q) : Go S yL_law cL_law 4 9 0 0 (some .boolean) 682 [(3, vI ((i : Nat) : Int)), (1, vR 0), (2, vR 279), (0, vS)] [] 303 (PP w) M Q := by
  refine go_aload_n 1 dL_law_682 rfl rfl ?_
  refine go_aload_nS 3 dL_law_683 rfl rfl ?_
  refine go_iload_n 0 dL_law_684 rfl rfl ?_
  refine go_iconst dL_law_685 (by decide) ?_
  refine gx_iadd (v := ((i + 1 : Nat) : Int)) dL_law_686 (by omega) ⟨by omega, by omega⟩ ?_
  refine go_sload dL_law_687 rfl (by omega) (by omega) ?_
  refine go_callVI (av := [vI (S.2 (((i + 1 : Nat) : Int)).toNat).toInt]) (st := []) (a := 0) (mc2 := 0) (ms2 := 0) dL_law_688 cwL_97 (by decide) rfl rfl (Nat.le_of_ble_eq_true rfl) rfl rfl kd_0 ⟨_, _, rfl⟩ (by decide) (by decide) (pr_run h _ (fun z w1 M1 hk => ?_))
  refine go_aload_n 2 dL_law_691 rfl rfl ?_
  refine go_aload_nS 3 dL_law_692 rfl rfl ?_
  refine go_iload_n 0 dL_law_693 rfl rfl ?_
  refine go_iconst dL_law_694 (by decide) ?_
  refine gx_iadd (v := ((i + 1 : Nat) : Int)) dL_law_695 (by omega) ⟨by omega, by omega⟩ ?_
  refine go_sload dL_law_696 rfl (by omega) (by omega) ?_
  refine go_callVI (av := [vI (S.2 (((i + 1 : Nat) : Int)).toNat).toInt]) (st := [vI z]) (a := 279) (mc2 := 0) (ms2 := 0) dL_law_697 cwL_100 (by decide) rfl rfl (Nat.le_of_ble_eq_true rfl) rfl rfl kd_279 ⟨_, _, rfl⟩ (by decide) (by decide) (hk _ (fun w2 U2 M2 h2 hu => ?_))
  refine go_icmp_eq (tgt := 974) dL_law_700 rfl (fun _ => ?_) (fun c1 => absurd rfl c1)
  exact hn w2 U2 M2 h2 hu
set_option maxHeartbeats 4000000 in
set_option maxRecDepth 100000 in
theorem law_21 (hS : S.1 ≤ 256) (hi : i + 4 ≤ S.1) (h : Rel M M w U) (hU : U ≤ 50000) (hn : ∀ (w2 U2 : Nat) (M2 : inm), Rel M2 M2 w2 U2 → U2 ≤ U + 60 → Go S yL_law cL_law 4 9 0 0 (some .boolean) 974 [(3, vI ((i : Nat) : Int)), (1, vR 0), (2, vR 279), (0, vS)] [] 303 (PP w2) M2 Q) : Go S yL_law cL_law 4 9 0 0 (some .boolean) 705 [(3, vI ((i : Nat) : Int)), (1, vR 0), (2, vR 279), (0, vS)] [] 303 (PP w) M Q := by
  refine go_aload_n 1 dL_law_705 rfl rfl ?_
  refine go_aload_nS 3 dL_law_706 rfl rfl ?_
  refine go_iload_n 0 dL_law_707 rfl rfl ?_
  refine go_iconst dL_law_708 (by decide) ?_
  refine gx_iadd (v := ((i + 1 : Nat) : Int)) dL_law_709 (by omega) ⟨by omega, by omega⟩ ?_
  refine go_sload dL_law_710 rfl (by omega) (by omega) ?_
  refine go_callVI (av := [vI (S.2 (((i + 1 : Nat) : Int)).toNat).toInt]) (st := []) (a := 0) (mc2 := 0) (ms2 := 0) dL_law_711 cwL_101 (by decide) rfl rfl (Nat.le_of_ble_eq_true rfl) rfl rfl kd_0 ⟨_, _, rfl⟩ (by decide) (by decide) (pr_fair h _ (fun z w1 M1 hk => ?_))
  refine go_aload_n 2 dL_law_714 rfl rfl ?_
  refine go_aload_nS 3 dL_law_715 rfl rfl ?_
  refine go_iload_n 0 dL_law_716 rfl rfl ?_
  refine go_iconst dL_law_717 (by decide) ?_
  refine gx_iadd (v := ((i + 1 : Nat) : Int)) dL_law_718 (by omega) ⟨by omega, by omega⟩ ?_
  refine go_sload dL_law_719 rfl (by omega) (by omega) ?_
  refine go_callVI (av := [vI (S.2 (((i + 1 : Nat) : Int)).toNat).toInt]) (st := [vI z]) (a := 279) (mc2 := 0) (ms2 := 0) dL_law_720 cwL_104 (by decide) rfl rfl (Nat.le_of_ble_eq_true rfl) rfl rfl kd_279 ⟨_, _, rfl⟩ (by decide) (by decide) (hk _ (fun w2 U2 M2 h2 hu => ?_))
  refine go_icmp_eq (tgt := 974) dL_law_723 rfl (fun _ => ?_) (fun c1 => absurd rfl c1)
  exact hn w2 U2 M2 h2 hu
set_option maxHeartbeats 4000000 in
set_option maxRecDepth 100000 in
theorem law_22 (hS : S.1 ≤ 256) (hi : i + 4 ≤ S.1) (h : Rel M M w U) (hU : U ≤ 50000) (hn : ∀ (w2 U2 : Nat) (M2 : inm), Rel M2 M2 w2 U2 → U2 ≤ U + 60 → Go S yL_law cL_law 4 9 0 0 (some .boolean) 974 [(3, vI ((i : Nat) : Int)), (1, vR 0), (2, vR 279), (0, vS)] [] 303 (PP w2) M2 Q) : Go S yL_law cL_law 4 9 0 0 (some .boolean) 728 [(3, vI ((i : Nat) : Int)), (1, vR 0), (2, vR 279), (0, vS)] [] 303 (PP w) M Q := by
  refine go_aload_n 1 dL_law_728 rfl rfl ?_
  refine go_aload_nS 3 dL_law_729 rfl rfl ?_
  refine go_iload_n 0 dL_law_730 rfl rfl ?_
  refine go_iconst dL_law_731 (by decide) ?_
  refine gx_iadd (v := ((i + 1 : Nat) : Int)) dL_law_732 (by omega) ⟨by omega, by omega⟩ ?_
  refine go_sload dL_law_733 rfl (by omega) (by omega) ?_
  refine go_aload_nS 3 dL_law_734 rfl rfl ?_
  refine go_iload_n 0 dL_law_735 rfl rfl ?_
  refine go_iconst dL_law_736 (by decide) ?_
  refine gx_iadd (v := ((i + 2 : Nat) : Int)) dL_law_737 (by omega) ⟨by omega, by omega⟩ ?_
  refine go_sload dL_law_738 rfl (by omega) (by omega) ?_
  refine go_callVI (av := [vI (S.2 (((i + 1 : Nat) : Int)).toNat).toInt, vI (S.2 (((i + 2 : Nat) : Int)).toNat).toInt]) (st := []) (a := 0) (mc2 := 0) (ms2 := 0) dL_law_739 cwL_105 (by decide) rfl rfl (Nat.le_of_ble_eq_true rfl) rfl rfl kd_0 ⟨_, _, rfl⟩ (by decide) (by decide) (pr_dry h _ (fun z w1 M1 hk => ?_))
  refine go_aload_n 2 dL_law_742 rfl rfl ?_
  refine go_aload_nS 3 dL_law_743 rfl rfl ?_
  refine go_iload_n 0 dL_law_744 rfl rfl ?_
  refine go_iconst dL_law_745 (by decide) ?_
  refine gx_iadd (v := ((i + 1 : Nat) : Int)) dL_law_746 (by omega) ⟨by omega, by omega⟩ ?_
  refine go_sload dL_law_747 rfl (by omega) (by omega) ?_
  refine go_aload_nS 3 dL_law_748 rfl rfl ?_
  refine go_iload_n 0 dL_law_749 rfl rfl ?_
  refine go_iconst dL_law_750 (by decide) ?_
  refine gx_iadd (v := ((i + 2 : Nat) : Int)) dL_law_751 (by omega) ⟨by omega, by omega⟩ ?_
  refine go_sload dL_law_752 rfl (by omega) (by omega) ?_
  refine go_callVI (av := [vI (S.2 (((i + 1 : Nat) : Int)).toNat).toInt, vI (S.2 (((i + 2 : Nat) : Int)).toNat).toInt]) (st := [vI z]) (a := 279) (mc2 := 0) (ms2 := 0) dL_law_753 cwL_108 (by decide) rfl rfl (Nat.le_of_ble_eq_true rfl) rfl rfl kd_279 ⟨_, _, rfl⟩ (by decide) (by decide) (hk _ (fun w2 U2 M2 h2 hu => ?_))
  refine go_icmp_eq (tgt := 974) dL_law_756 rfl (fun _ => ?_) (fun c1 => absurd rfl c1)
  exact hn w2 U2 M2 h2 hu
set_option maxHeartbeats 4000000 in
set_option maxRecDepth 100000 in
theorem law_23 (hS : S.1 ≤ 256) (hi : i + 4 ≤ S.1) (h : Rel M M w U) (hU : U ≤ 50000) (hn : ∀ (w2 U2 : Nat) (M2 : inm), Rel M2 M2 w2 U2 → U2 ≤ U + 60 → Go S yL_law cL_law 4 9 0 0 (some .boolean) 974 [(3, vI ((i : Nat) : Int)), (1, vR 0), (2, vR 279), (0, vS)] [] 303 (PP w2) M2 Q) : Go S yL_law cL_law 4 9 0 0 (some .boolean) 761 [(3, vI ((i : Nat) : Int)), (1, vR 0), (2, vR 279), (0, vS)] [] 303 (PP w) M Q := by
  by_cases hz : (S.2 (((i + 3 : Nat) : Int)).toNat).toInt = 0
  · refine go_aload_n 1 dL_law_761 rfl rfl ?_
    refine go_aload_nS 3 dL_law_762 rfl rfl ?_
    refine go_iload_n 0 dL_law_763 rfl rfl ?_
    refine go_iconst dL_law_764 (by decide) ?_
    refine gx_iadd (v := ((i + 1 : Nat) : Int)) dL_law_765 (by omega) ⟨by omega, by omega⟩ ?_
    refine go_sload dL_law_766 rfl (by omega) (by omega) ?_
    refine go_aload_nS 3 dL_law_767 rfl rfl ?_
    refine go_iload_n 0 dL_law_768 rfl rfl ?_
    refine go_iconst dL_law_769 (by decide) ?_
    refine gx_iadd (v := ((i + 2 : Nat) : Int)) dL_law_770 (by omega) ⟨by omega, by omega⟩ ?_
    refine go_sload dL_law_771 rfl (by omega) (by omega) ?_
    refine go_aload_nS 3 dL_law_772 rfl rfl ?_
    refine go_iload_n 0 dL_law_773 rfl rfl ?_
    refine go_iconst dL_law_774 (by decide) ?_
    refine gx_iadd (v := ((i + 3 : Nat) : Int)) dL_law_775 (by omega) ⟨by omega, by omega⟩ ?_
    refine go_sload dL_law_776 rfl (by omega) (by omega) ?_
    refine go_if_eq (tgt := 784) dL_law_777 rfl (fun _ => ?_) (fun c1 => absurd hz c1)
    refine go_iconst dL_law_784 (by decide) ?_
    refine go_callVI (av := [vI (S.2 (((i + 1 : Nat) : Int)).toNat).toInt, vI (S.2 (((i + 2 : Nat) : Int)).toNat).toInt, vI 0]) (st := []) (a := 0) (mc2 := 0) (ms2 := 0) dL_law_785 cwL_109 (by decide) rfl rfl (Nat.le_of_ble_eq_true rfl) rfl rfl kd_0 ⟨_, _, rfl⟩ (by decide) (by decide) (pr_guess h (by decide) _ (fun z w1 M1 hk => ?_))
    refine go_aload_n 2 dL_law_788 rfl rfl ?_
    refine go_aload_nS 3 dL_law_789 rfl rfl ?_
    refine go_iload_n 0 dL_law_790 rfl rfl ?_
    refine go_iconst dL_law_791 (by decide) ?_
    refine gx_iadd (v := ((i + 1 : Nat) : Int)) dL_law_792 (by omega) ⟨by omega, by omega⟩ ?_
    refine go_sload dL_law_793 rfl (by omega) (by omega) ?_
    refine go_aload_nS 3 dL_law_794 rfl rfl ?_
    refine go_iload_n 0 dL_law_795 rfl rfl ?_
    refine go_iconst dL_law_796 (by decide) ?_
    refine gx_iadd (v := ((i + 2 : Nat) : Int)) dL_law_797 (by omega) ⟨by omega, by omega⟩ ?_
    refine go_sload dL_law_798 rfl (by omega) (by omega) ?_
    refine go_aload_nS 3 dL_law_799 rfl rfl ?_
    refine go_iload_n 0 dL_law_800 rfl rfl ?_
    refine go_iconst dL_law_801 (by decide) ?_
    refine gx_iadd (v := ((i + 3 : Nat) : Int)) dL_law_802 (by omega) ⟨by omega, by omega⟩ ?_
    refine go_sload dL_law_803 rfl (by omega) (by omega) ?_
    refine go_if_eq (tgt := 811) dL_law_804 rfl (fun _ => ?_) (fun c1 => absurd hz c1)
    refine go_iconst dL_law_811 (by decide) ?_
    refine go_callVI (av := [vI (S.2 (((i + 1 : Nat) : Int)).toNat).toInt, vI (S.2 (((i + 2 : Nat) : Int)).toNat).toInt, vI 0]) (st := [vI z]) (a := 279) (mc2 := 0) (ms2 := 0) dL_law_812 cwL_113 (by decide) rfl rfl (Nat.le_of_ble_eq_true rfl) rfl rfl kd_279 ⟨_, _, rfl⟩ (by decide) (by decide) (hk _ (fun w2 U2 M2 h2 hu => ?_))
    refine go_icmp_eq (tgt := 974) dL_law_815 rfl (fun _ => ?_) (fun c1 => absurd rfl c1)
    exact hn w2 U2 M2 h2 hu
  · refine go_aload_n 1 dL_law_761 rfl rfl ?_
    refine go_aload_nS 3 dL_law_762 rfl rfl ?_
    refine go_iload_n 0 dL_law_763 rfl rfl ?_
    refine go_iconst dL_law_764 (by decide) ?_
    refine gx_iadd (v := ((i + 1 : Nat) : Int)) dL_law_765 (by omega) ⟨by omega, by omega⟩ ?_
    refine go_sload dL_law_766 rfl (by omega) (by omega) ?_
    refine go_aload_nS 3 dL_law_767 rfl rfl ?_
    refine go_iload_n 0 dL_law_768 rfl rfl ?_
    refine go_iconst dL_law_769 (by decide) ?_
    refine gx_iadd (v := ((i + 2 : Nat) : Int)) dL_law_770 (by omega) ⟨by omega, by omega⟩ ?_
    refine go_sload dL_law_771 rfl (by omega) (by omega) ?_
    refine go_aload_nS 3 dL_law_772 rfl rfl ?_
    refine go_iload_n 0 dL_law_773 rfl rfl ?_
    refine go_iconst dL_law_774 (by decide) ?_
    refine gx_iadd (v := ((i + 3 : Nat) : Int)) dL_law_775 (by omega) ⟨by omega, by omega⟩ ?_
    refine go_sload dL_law_776 rfl (by omega) (by omega) ?_
    refine go_if_eq (tgt := 784) dL_law_777 rfl (fun c1 => absurd c1 hz) (fun _ => ?_)
    refine go_iconst dL_law_780 (by decide) ?_
    refine go_goto (tgt := 785) dL_law_781 rfl ?_
    refine go_callVI (av := [vI (S.2 (((i + 1 : Nat) : Int)).toNat).toInt, vI (S.2 (((i + 2 : Nat) : Int)).toNat).toInt, vI 1]) (st := []) (a := 0) (mc2 := 0) (ms2 := 0) dL_law_785 cwL_109 (by decide) rfl rfl (Nat.le_of_ble_eq_true rfl) rfl rfl kd_0 ⟨_, _, rfl⟩ (by decide) (by decide) (pr_guess h (by decide) _ (fun z w1 M1 hk => ?_))
    refine go_aload_n 2 dL_law_788 rfl rfl ?_
    refine go_aload_nS 3 dL_law_789 rfl rfl ?_
    refine go_iload_n 0 dL_law_790 rfl rfl ?_
    refine go_iconst dL_law_791 (by decide) ?_
    refine gx_iadd (v := ((i + 1 : Nat) : Int)) dL_law_792 (by omega) ⟨by omega, by omega⟩ ?_
    refine go_sload dL_law_793 rfl (by omega) (by omega) ?_
    refine go_aload_nS 3 dL_law_794 rfl rfl ?_
    refine go_iload_n 0 dL_law_795 rfl rfl ?_
    refine go_iconst dL_law_796 (by decide) ?_
    refine gx_iadd (v := ((i + 2 : Nat) : Int)) dL_law_797 (by omega) ⟨by omega, by omega⟩ ?_
    refine go_sload dL_law_798 rfl (by omega) (by omega) ?_
    refine go_aload_nS 3 dL_law_799 rfl rfl ?_
    refine go_iload_n 0 dL_law_800 rfl rfl ?_
    refine go_iconst dL_law_801 (by decide) ?_
    refine gx_iadd (v := ((i + 3 : Nat) : Int)) dL_law_802 (by omega) ⟨by omega, by omega⟩ ?_
    refine go_sload dL_law_803 rfl (by omega) (by omega) ?_
    refine go_if_eq (tgt := 811) dL_law_804 rfl (fun c1 => absurd c1 hz) (fun _ => ?_)
    refine go_iconst dL_law_807 (by decide) ?_
    refine go_goto (tgt := 812) dL_law_808 rfl ?_
    refine go_callVI (av := [vI (S.2 (((i + 1 : Nat) : Int)).toNat).toInt, vI (S.2 (((i + 2 : Nat) : Int)).toNat).toInt, vI 1]) (st := [vI z]) (a := 279) (mc2 := 0) (ms2 := 0) dL_law_812 cwL_113 (by decide) rfl rfl (Nat.le_of_ble_eq_true rfl) rfl rfl kd_279 ⟨_, _, rfl⟩ (by decide) (by decide) (hk _ (fun w2 U2 M2 h2 hu => ?_))
    refine go_icmp_eq (tgt := 974) dL_law_815 rfl (fun _ => ?_) (fun c1 => absurd rfl c1)
    exact hn w2 U2 M2 h2 hu
set_option maxHeartbeats 4000000 in
set_option maxRecDepth 100000 in
theorem law_24 (hS : S.1 ≤ 256) (hi : i + 4 ≤ S.1) (h : Rel M M w U) (hU : U ≤ 50000) (hn : ∀ (w2 U2 : Nat) (M2 : inm), Rel M2 M2 w2 U2 → U2 ≤ U + 60 → Go S yL_law cL_law 4 9 0 0 (some .boolean) 974 [(3, vI ((i : Nat) : Int)), (1, vR 0), (2, vR 279), (0, vS)] [] 303 (PP w2) M2 Q) : Go S yL_law cL_law 4 9 0 0 (some .boolean) 820 [(3, vI ((i : Nat) : Int)), (1, vR 0), (2, vR 279), (0, vS)] [] 303 (PP w) M Q := by
  refine go_aload_n 1 dL_law_820 rfl rfl ?_
  refine go_callVI (av := []) (st := []) (a := 0) (mc2 := 0) (ms2 := 0) dL_law_821 cwL_114 (by decide) rfl rfl (Nat.le_of_ble_eq_true rfl) rfl rfl kd_0 ⟨_, _, rfl⟩ (by decide) (by decide) (pr_couldBe h _ (fun z w1 M1 hk => ?_))
  refine go_aload_n 2 dL_law_824 rfl rfl ?_
  refine go_callVI (av := []) (st := [vI z]) (a := 279) (mc2 := 0) (ms2 := 0) dL_law_825 cwL_117 (by decide) rfl rfl (Nat.le_of_ble_eq_true rfl) rfl rfl kd_279 ⟨_, _, rfl⟩ (by decide) (by decide) (hk _ (fun w2 U2 M2 h2 hu => ?_))
  refine go_icmp_eq (tgt := 974) dL_law_828 rfl (fun _ => ?_) (fun c1 => absurd rfl c1)
  exact hn w2 U2 M2 h2 hu
set_option maxHeartbeats 4000000 in
set_option maxRecDepth 100000 in
theorem law_25 (hS : S.1 ≤ 256) (hi : i + 4 ≤ S.1) (h : Rel M M w U) (hU : U ≤ 50000) (hn : ∀ (w2 U2 : Nat) (M2 : inm), Rel M2 M2 w2 U2 → U2 ≤ U + 60 → Go S yL_law cL_law 4 9 0 0 (some .boolean) 974 [(3, vI ((i : Nat) : Int)), (1, vR 0), (2, vR 279), (0, vS)] [] 303 (PP w2) M2 Q) : Go S yL_law cL_law 4 9 0 0 (some .boolean) 833 [(3, vI ((i : Nat) : Int)), (1, vR 0), (2, vR 279), (0, vS)] [] 303 (PP w) M Q := by
  refine go_aload_n 1 dL_law_833 rfl rfl ?_
  refine go_callVI (av := []) (st := []) (a := 0) (mc2 := 0) (ms2 := 0) dL_law_834 cwL_118 (by decide) rfl rfl (Nat.le_of_ble_eq_true rfl) rfl rfl kd_0 ⟨_, _, rfl⟩ (by decide) (by decide) (pr_ask h _ (fun z w1 M1 hk => ?_))
  refine go_aload_n 2 dL_law_837 rfl rfl ?_
  refine go_callVI (av := []) (st := [vI z]) (a := 279) (mc2 := 0) (ms2 := 0) dL_law_838 cwL_121 (by decide) rfl rfl (Nat.le_of_ble_eq_true rfl) rfl rfl kd_279 ⟨_, _, rfl⟩ (by decide) (by decide) (hk _ (fun w2 U2 M2 h2 hu => ?_))
  refine go_icmp_eq (tgt := 974) dL_law_841 rfl (fun _ => ?_) (fun c1 => absurd rfl c1)
  exact hn w2 U2 M2 h2 hu
set_option maxHeartbeats 4000000 in
set_option maxRecDepth 100000 in
theorem law_26 (hS : S.1 ≤ 256) (hi : i + 4 ≤ S.1) (h : Rel M M w U) (hU : U ≤ 50000) (hn : ∀ (w2 U2 : Nat) (M2 : inm), Rel M2 M2 w2 U2 → U2 ≤ U + 60 → Go S yL_law cL_law 4 9 0 0 (some .boolean) 974 [(3, vI ((i : Nat) : Int)), (1, vR 0), (2, vR 279), (0, vS)] [] 303 (PP w2) M2 Q) : Go S yL_law cL_law 4 9 0 0 (some .boolean) 846 [(3, vI ((i : Nat) : Int)), (1, vR 0), (2, vR 279), (0, vS)] [] 303 (PP w) M Q := by
  refine go_aload_n 1 dL_law_846 rfl rfl ?_
  refine go_aload_nS 3 dL_law_847 rfl rfl ?_
  refine go_iload_n 0 dL_law_848 rfl rfl ?_
  refine go_iconst dL_law_849 (by decide) ?_
  refine gx_iadd (v := ((i + 1 : Nat) : Int)) dL_law_850 (by omega) ⟨by omega, by omega⟩ ?_
  refine go_sload dL_law_851 rfl (by omega) (by omega) ?_
  refine go_aload_nS 3 dL_law_852 rfl rfl ?_
  refine go_iload_n 0 dL_law_853 rfl rfl ?_
  refine go_iconst dL_law_854 (by decide) ?_
  refine gx_iadd (v := ((i + 2 : Nat) : Int)) dL_law_855 (by omega) ⟨by omega, by omega⟩ ?_
  refine go_sload dL_law_856 rfl (by omega) (by omega) ?_
  refine go_callVI (av := [vI (S.2 (((i + 1 : Nat) : Int)).toNat).toInt, vI (S.2 (((i + 2 : Nat) : Int)).toNat).toInt]) (st := []) (a := 0) (mc2 := 0) (ms2 := 0) dL_law_857 cwL_122 (by decide) rfl rfl (Nat.le_of_ble_eq_true rfl) rfl rfl kd_0 ⟨_, _, rfl⟩ (by decide) (by decide) (pr_write h _ (fun z w1 M1 hk => ?_))
  refine go_aload_n 2 dL_law_860 rfl rfl ?_
  refine go_aload_nS 3 dL_law_861 rfl rfl ?_
  refine go_iload_n 0 dL_law_862 rfl rfl ?_
  refine go_iconst dL_law_863 (by decide) ?_
  refine gx_iadd (v := ((i + 1 : Nat) : Int)) dL_law_864 (by omega) ⟨by omega, by omega⟩ ?_
  refine go_sload dL_law_865 rfl (by omega) (by omega) ?_
  refine go_aload_nS 3 dL_law_866 rfl rfl ?_
  refine go_iload_n 0 dL_law_867 rfl rfl ?_
  refine go_iconst dL_law_868 (by decide) ?_
  refine gx_iadd (v := ((i + 2 : Nat) : Int)) dL_law_869 (by omega) ⟨by omega, by omega⟩ ?_
  refine go_sload dL_law_870 rfl (by omega) (by omega) ?_
  refine go_callVI (av := [vI (S.2 (((i + 1 : Nat) : Int)).toNat).toInt, vI (S.2 (((i + 2 : Nat) : Int)).toNat).toInt]) (st := [vI z]) (a := 279) (mc2 := 0) (ms2 := 0) dL_law_871 cwL_125 (by decide) rfl rfl (Nat.le_of_ble_eq_true rfl) rfl rfl kd_279 ⟨_, _, rfl⟩ (by decide) (by decide) (hk _ (fun w2 U2 M2 h2 hu => ?_))
  refine go_icmp_eq (tgt := 974) dL_law_874 rfl (fun _ => ?_) (fun c1 => absurd rfl c1)
  exact hn w2 U2 M2 h2 hu
set_option maxHeartbeats 4000000 in
set_option maxRecDepth 100000 in
theorem law_27 (hS : S.1 ≤ 256) (hi : i + 4 ≤ S.1) (h : Rel M M w U) (hU : U ≤ 50000) (hn : ∀ (w2 U2 : Nat) (M2 : inm), Rel M2 M2 w2 U2 → U2 ≤ U + 60 → Go S yL_law cL_law 4 9 0 0 (some .boolean) 974 [(3, vI ((i : Nat) : Int)), (1, vR 0), (2, vR 279), (0, vS)] [] 303 (PP w2) M2 Q) : Go S yL_law cL_law 4 9 0 0 (some .boolean) 879 [(3, vI ((i : Nat) : Int)), (1, vR 0), (2, vR 279), (0, vS)] [] 303 (PP w) M Q := by
  refine go_aload_n 1 dL_law_879 rfl rfl ?_
  refine go_callVI (av := []) (st := []) (a := 0) (mc2 := 0) (ms2 := 0) dL_law_880 cwL_126 (by decide) rfl rfl (Nat.le_of_ble_eq_true rfl) rfl rfl kd_0 ⟨_, _, rfl⟩ (by decide) (by decide) (pr_judge h _ (fun z w1 M1 hk => ?_))
  refine go_aload_n 2 dL_law_883 rfl rfl ?_
  refine go_callVI (av := []) (st := [vI z]) (a := 279) (mc2 := 0) (ms2 := 0) dL_law_884 cwL_129 (by decide) rfl rfl (Nat.le_of_ble_eq_true rfl) rfl rfl kd_279 ⟨_, _, rfl⟩ (by decide) (by decide) (hk _ (fun w2 U2 M2 h2 hu => ?_))
  refine go_icmp_eq (tgt := 974) dL_law_887 rfl (fun _ => ?_) (fun c1 => absurd rfl c1)
  exact hn w2 U2 M2 h2 hu
set_option maxHeartbeats 4000000 in
set_option maxRecDepth 100000 in
theorem law_28 (hS : S.1 ≤ 256) (hi : i + 4 ≤ S.1) (h : Rel M M w U) (hU : U ≤ 50000) (hn : ∀ (w2 U2 : Nat) (M2 : inm), Rel M2 M2 w2 U2 → U2 ≤ U + 60 → Go S yL_law cL_law 4 9 0 0 (some .boolean) 974 [(3, vI ((i : Nat) : Int)), (1, vR 0), (2, vR 279), (0, vS)] [] 303 (PP w2) M2 Q) : Go S yL_law cL_law 4 9 0 0 (some .boolean) 892 [(3, vI ((i : Nat) : Int)), (1, vR 0), (2, vR 279), (0, vS)] [] 303 (PP w) M Q := by
  refine go_aload_n 1 dL_law_892 rfl rfl ?_
  refine go_callVI (av := []) (st := []) (a := 0) (mc2 := 0) (ms2 := 0) dL_law_893 cwL_130 (by decide) rfl rfl (Nat.le_of_ble_eq_true rfl) rfl rfl kd_0 ⟨_, _, rfl⟩ (by decide) (by decide) (pr_tear h _ (fun z w1 M1 hk => ?_))
  refine go_aload_n 2 dL_law_896 rfl rfl ?_
  refine go_callVI (av := []) (st := [vI z]) (a := 279) (mc2 := 0) (ms2 := 0) dL_law_897 cwL_133 (by decide) rfl rfl (Nat.le_of_ble_eq_true rfl) rfl rfl kd_279 ⟨_, _, rfl⟩ (by decide) (by decide) (hk _ (fun w2 U2 M2 h2 hu => ?_))
  refine go_icmp_eq (tgt := 974) dL_law_900 rfl (fun _ => ?_) (fun c1 => absurd rfl c1)
  exact hn w2 U2 M2 h2 hu
set_option maxHeartbeats 4000000 in
set_option maxRecDepth 100000 in
theorem law_29 (hS : S.1 ≤ 256) (hi : i + 4 ≤ S.1) (h : Rel M M w U) (hU : U ≤ 50000) (hn : ∀ (w2 U2 : Nat) (M2 : inm), Rel M2 M2 w2 U2 → U2 ≤ U + 60 → Go S yL_law cL_law 4 9 0 0 (some .boolean) 974 [(3, vI ((i : Nat) : Int)), (1, vR 0), (2, vR 279), (0, vS)] [] 303 (PP w2) M2 Q) : Go S yL_law cL_law 4 9 0 0 (some .boolean) 905 [(3, vI ((i : Nat) : Int)), (1, vR 0), (2, vR 279), (0, vS)] [] 303 (PP w) M Q := by
  refine go_aload_n 1 dL_law_905 rfl rfl ?_
  refine go_aload_nS 3 dL_law_906 rfl rfl ?_
  refine go_iload_n 0 dL_law_907 rfl rfl ?_
  refine go_iconst dL_law_908 (by decide) ?_
  refine gx_iadd (v := ((i + 1 : Nat) : Int)) dL_law_909 (by omega) ⟨by omega, by omega⟩ ?_
  refine go_sload dL_law_910 rfl (by omega) (by omega) ?_
  refine go_callVI (av := [vI (S.2 (((i + 1 : Nat) : Int)).toNat).toInt]) (st := []) (a := 0) (mc2 := 0) (ms2 := 0) dL_law_911 cwL_134 (by decide) rfl rfl (Nat.le_of_ble_eq_true rfl) rfl rfl kd_0 ⟨_, _, rfl⟩ (by decide) (by decide) (pr_seed h (oi_range _).2 _ (fun z w1 M1 hk => ?_))
  refine go_aload_n 2 dL_law_914 rfl rfl ?_
  refine go_aload_nS 3 dL_law_915 rfl rfl ?_
  refine go_iload_n 0 dL_law_916 rfl rfl ?_
  refine go_iconst dL_law_917 (by decide) ?_
  refine gx_iadd (v := ((i + 1 : Nat) : Int)) dL_law_918 (by omega) ⟨by omega, by omega⟩ ?_
  refine go_sload dL_law_919 rfl (by omega) (by omega) ?_
  refine go_callVI (av := [vI (S.2 (((i + 1 : Nat) : Int)).toNat).toInt]) (st := [vI z]) (a := 279) (mc2 := 0) (ms2 := 0) dL_law_920 cwL_137 (by decide) rfl rfl (Nat.le_of_ble_eq_true rfl) rfl rfl kd_279 ⟨_, _, rfl⟩ (by decide) (by decide) (hk _ (fun w2 U2 M2 h2 hu => ?_))
  refine go_icmp_eq (tgt := 974) dL_law_923 rfl (fun _ => ?_) (fun c1 => absurd rfl c1)
  exact hn w2 U2 M2 h2 hu
set_option maxHeartbeats 4000000 in
set_option maxRecDepth 100000 in
theorem law_30 (hS : S.1 ≤ 256) (hi : i + 4 ≤ S.1) (h : Rel M M w U) (hU : U ≤ 50000) (hn : ∀ (w2 U2 : Nat) (M2 : inm), Rel M2 M2 w2 U2 → U2 ≤ U + 60 → Go S yL_law cL_law 4 9 0 0 (some .boolean) 974 [(3, vI ((i : Nat) : Int)), (1, vR 0), (2, vR 279), (0, vS)] [] 303 (PP w2) M2 Q) : Go S yL_law cL_law 4 9 0 0 (some .boolean) 928 [(3, vI ((i : Nat) : Int)), (1, vR 0), (2, vR 279), (0, vS)] [] 303 (PP w) M Q := by
  refine go_aload_n 1 dL_law_928 rfl rfl ?_
  refine go_aload_nS 3 dL_law_929 rfl rfl ?_
  refine go_iload_n 0 dL_law_930 rfl rfl ?_
  refine go_iconst dL_law_931 (by decide) ?_
  refine gx_iadd (v := ((i + 1 : Nat) : Int)) dL_law_932 (by omega) ⟨by omega, by omega⟩ ?_
  refine go_sload dL_law_933 rfl (by omega) (by omega) ?_
  refine go_callVI (av := [vI (S.2 (((i + 1 : Nat) : Int)).toNat).toInt]) (st := []) (a := 0) (mc2 := 0) (ms2 := 0) dL_law_934 cwL_138 (by decide) rfl rfl (Nat.le_of_ble_eq_true rfl) rfl rfl kd_0 ⟨_, _, rfl⟩ (by decide) (by decide) (pr_keep h _ (fun z w1 M1 hk => ?_))
  refine go_aload_n 2 dL_law_937 rfl rfl ?_
  refine go_aload_nS 3 dL_law_938 rfl rfl ?_
  refine go_iload_n 0 dL_law_939 rfl rfl ?_
  refine go_iconst dL_law_940 (by decide) ?_
  refine gx_iadd (v := ((i + 1 : Nat) : Int)) dL_law_941 (by omega) ⟨by omega, by omega⟩ ?_
  refine go_sload dL_law_942 rfl (by omega) (by omega) ?_
  refine go_callVI (av := [vI (S.2 (((i + 1 : Nat) : Int)).toNat).toInt]) (st := [vI z]) (a := 279) (mc2 := 0) (ms2 := 0) dL_law_943 cwL_141 (by decide) rfl rfl (Nat.le_of_ble_eq_true rfl) rfl rfl kd_279 ⟨_, _, rfl⟩ (by decide) (by decide) (hk _ (fun w2 U2 M2 h2 hu => ?_))
  refine go_icmp_eq (tgt := 974) dL_law_946 rfl (fun _ => ?_) (fun c1 => absurd rfl c1)
  exact hn w2 U2 M2 h2 hu
set_option maxHeartbeats 4000000 in
set_option maxRecDepth 100000 in
theorem law_31 (hS : S.1 ≤ 256) (hi : i + 4 ≤ S.1) (h : Rel M M w U) (hU : U ≤ 50000) (hn : ∀ (w2 U2 : Nat) (M2 : inm), Rel M2 M2 w2 U2 → U2 ≤ U + 60 → Go S yL_law cL_law 4 9 0 0 (some .boolean) 974 [(3, vI ((i : Nat) : Int)), (1, vR 0), (2, vR 279), (0, vS)] [] 303 (PP w2) M2 Q) : Go S yL_law cL_law 4 9 0 0 (some .boolean) 951 [(3, vI ((i : Nat) : Int)), (1, vR 0), (2, vR 279), (0, vS)] [] 303 (PP w) M Q := by
  refine go_aload_n 1 dL_law_951 rfl rfl ?_
  refine go_aload_nS 3 dL_law_952 rfl rfl ?_
  refine go_iload_n 0 dL_law_953 rfl rfl ?_
  refine go_iconst dL_law_954 (by decide) ?_
  refine gx_iadd (v := ((i + 1 : Nat) : Int)) dL_law_955 (by omega) ⟨by omega, by omega⟩ ?_
  refine go_sload dL_law_956 rfl (by omega) (by omega) ?_
  refine go_callVI (av := [vI (S.2 (((i + 1 : Nat) : Int)).toNat).toInt]) (st := []) (a := 0) (mc2 := 0) (ms2 := 0) dL_law_957 cwL_142 (by decide) rfl rfl (Nat.le_of_ble_eq_true rfl) rfl rfl kd_0 ⟨_, _, rfl⟩ (by decide) (by decide) (pr_goBack h _ (fun z w1 M1 hk => ?_))
  refine go_aload_n 2 dL_law_960 rfl rfl ?_
  refine go_aload_nS 3 dL_law_961 rfl rfl ?_
  refine go_iload_n 0 dL_law_962 rfl rfl ?_
  refine go_iconst dL_law_963 (by decide) ?_
  refine gx_iadd (v := ((i + 1 : Nat) : Int)) dL_law_964 (by omega) ⟨by omega, by omega⟩ ?_
  refine go_sload dL_law_965 rfl (by omega) (by omega) ?_
  refine go_callVI (av := [vI (S.2 (((i + 1 : Nat) : Int)).toNat).toInt]) (st := [vI z]) (a := 279) (mc2 := 0) (ms2 := 0) dL_law_966 cwL_145 (by decide) rfl rfl (Nat.le_of_ble_eq_true rfl) rfl rfl kd_279 ⟨_, _, rfl⟩ (by decide) (by decide) (hk _ (fun w2 U2 M2 h2 hu => ?_))
  refine go_icmp_eq (tgt := 974) dL_law_969 rfl (fun _ => ?_) (fun c1 => absurd rfl c1)
  exact hn w2 U2 M2 h2 hu
end LawCases
