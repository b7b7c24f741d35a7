/-! ===== the reference: its face, what is read ===== -/
set_option maxHeartbeats 4000000 in
set_option maxRecDepth 100000 in
theorem weeps_any {w E : Nat} {M : inm} {Q : Int → Nat → rfm → inm → Prop} (hE : M 279 2 = (E : Int) ∧ E ≤ 5) (hQ : Q (if E = 0 then -1 else ((argX (fun e => M 284 (e + 34)) E : Nat) : Int)) 303 (PP w) M) : OkI yX10_weeps cX10_weeps 3 0 0 0 (some .int) [vR 279] 303 (PP w) M Q := by
  by_cases h : E = 0
  · rw [if_pos h] at hQ
    exact ok_X10_weeps_0 (by rw [hE.1, h]; rfl) hQ
  · rw [if_neg h] at hQ
    exact ok_X10_weeps (E := E) ⟨hE.1, by omega, hE.2⟩ hQ
set_option maxHeartbeats 4000000 in
set_option maxRecDepth 100000 in
theorem ok_X10_told {w L T E : Nat} {lt : Nat → Nat} {M : inm} {a : Int} {Q : Int → Nat → rfm → inm → Prop} (hL : Lay10 M L) (hT : Tys10 M T lt) (hE : M 279 2 = (E : Int) ∧ E ≤ 5) (hg : ∀ e, e < E → 0 ≤ M 284 (e + 29) ∧ M 284 (e + 29) ≤ 20000) (htr : ∀ e, e < E → 0 ≤ M 284 (e + 34) ∧ M 284 (e + 34) ≤ 9999) (hqu : ∀ e, e < E → 1 ≤ M 281 e ∧ M 281 e ≤ 9) (hQ : Q (sel [(if M 279 0 = 0 then 0 else 1), (L : Int), (E : Int), (T : Int), (M 279 18), (M 284 25), (M 284 26), (M 284 27), (sumTo (fun j => M 284 (j + 13)) L), (cutV (fun j => M 284 (j + 13)) L), ((orTo (setG (begV lt (fun t k => M 283 (8 * t + k)) (fun j => M 284 (j + 1)) L)) T : Nat) : Int), (if (fo (sureG (fun u => decide (0 < cntTo (nextP lt (fun t k => M 283 (8 * t + k)) (fun j => M 284 (j + 1)) L (u : Int)) T))) 5 (-1, 0)).2 = 1 then (fo (sureG (fun u => decide (0 < cntTo (nextP lt (fun t k => M 283 (8 * t + k)) (fun j => M 284 (j + 1)) L (u : Int)) T))) 5 (-1, 0)).1 else -1), ((orTo (lawG (fun j => M 284 (j + 1))) (max L 1) : Nat) : Int), (if E = 0 then 0 else (fo (envG (fun e => M 284 (e + 29))) E (-1, 1000000)).1 - (fo (envG (fun e => M 284 (e + 29))) E (-1, 1000000)).2), (if E = 0 then -1 else ((argX (fun e => M 284 (e + 34)) E : Nat) : Int)), (fo (dryG (fun e => M 284 (e + 34)) (fun e => M 281 e)) E 0), (M 284 44), (M 279 13), (M 279 10), (M 279 33)] a (-1000000002)) 303 (PP w) M) : OkI yX10_told cX10_told 2 3 0 0 (some .int) [vR 279, vI a] 303 (PP w) M Q := by
  refine OkI.of (by decide +kernel) (by decide +kernel) (Nat.le_of_ble_eq_true rfl) ?_
  refine go_eq (lv' := [(0, vR 279), (1, vI a)]) rfl rfl rfl rfl rfl ?_
  refine go_iload_n 1 dX10_told_0 rfl rfl ?_
  by_cases s1 : a = 0
  · refine go_tblIn (tgt := 96) dX10_told_1 (by omega) (by omega) (by rw [s1]; rfl) rfl ?_
    refine go_aload_n 0 dX10_told_96 rfl rfl ?_
    refine gx_getI (v := (M 279 0)) dX10_told_97 lk10_157.get kd_279 (by omega) rfl rfl ?_
    refine go_if_eq (tgt := 107) dX10_told_100 rfl (fun c2 => ?_) (fun c2 => ?_)
    · refine go_iconst dX10_told_107 (by decide) ?_
      refine go_iret dX10_told_108 rfl rfl ⟨_, rfl, ?_⟩
      rw [sel_at 0 (by omega) rfl] at hQ
      first | (rw [if_pos (by omega)] at hQ; exact hQ) | (rw [if_neg (by omega)] at hQ; exact hQ)
    · refine go_iconst dX10_told_103 (by decide) ?_
      refine go_goto (tgt := 108) dX10_told_104 rfl ?_
      refine go_iret dX10_told_108 rfl rfl ⟨_, rfl, ?_⟩
      rw [sel_at 0 (by omega) rfl] at hQ
      first | (rw [if_pos (by omega)] at hQ; exact hQ) | (rw [if_neg (by omega)] at hQ; exact hQ)
  · skip
    by_cases s3 : a = 1
    · refine go_tblIn (tgt := 109) dX10_told_1 (by omega) (by omega) (by rw [s3]; rfl) rfl ?_
      refine go_aload_n 0 dX10_told_109 rfl rfl ?_
      refine go_getR (r := 284) dX10_told_110 lk10_22.get kd_279 (by omega) rfl (pp_279_8 w) ?_
      refine go_iconst dX10_told_113 (by decide) ?_
      refine gx_iaload (v := ((L : Nat) : Int)) 0 dX10_told_114 kd_284 (by omega) ln_284 (by omega) (by omega) hL.1 ?_
      refine go_iret dX10_told_115 rfl rfl ⟨_, rfl, ?_⟩
      rw [sel_at 1 (by omega) rfl] at hQ
      exact hQ
    · skip
      by_cases s4 : a = 2
      · refine go_tblIn (tgt := 116) dX10_told_1 (by omega) (by omega) (by rw [s4]; rfl) rfl ?_
        refine go_aload_n 0 dX10_told_116 rfl rfl ?_
        refine gx_getI (v := ((E : Nat) : Int)) dX10_told_117 lk10_91.get kd_279 (by omega) rfl hE.1 ?_
        refine go_iret dX10_told_120 rfl rfl ⟨_, rfl, ?_⟩
        rw [sel_at 2 (by omega) rfl] at hQ
        exact hQ
      · skip
        by_cases s5 : a = 3
        · refine go_tblIn (tgt := 121) dX10_told_1 (by omega) (by omega) (by rw [s5]; rfl) rfl ?_
          refine go_aload_n 0 dX10_told_121 rfl rfl ?_
          refine gx_getI (v := ((T : Nat) : Int)) dX10_told_122 lk10_164.get kd_279 (by omega) rfl hT.1 ?_
          refine go_iret dX10_told_125 rfl rfl ⟨_, rfl, ?_⟩
          rw [sel_at 3 (by omega) rfl] at hQ
          exact hQ
        · skip
          by_cases s6 : a = 4
          · refine go_tblIn (tgt := 126) dX10_told_1 (by omega) (by omega) (by rw [s6]; rfl) rfl ?_
            refine go_aload_n 0 dX10_told_126 rfl rfl ?_
            refine gx_getI (v := (M 279 18)) dX10_told_127 lk10_97.get kd_279 (by omega) rfl rfl ?_
            refine go_iret dX10_told_130 rfl rfl ⟨_, rfl, ?_⟩
            rw [sel_at 4 (by omega) rfl] at hQ
            exact hQ
          · skip
            by_cases s7 : a = 5
            · refine go_tblIn (tgt := 131) dX10_told_1 (by omega) (by omega) (by rw [s7]; rfl) rfl ?_
              refine go_aload_n 0 dX10_told_131 rfl rfl ?_
              refine go_getR (r := 284) dX10_told_132 lk10_22.get kd_279 (by omega) rfl (pp_279_8 w) ?_
              refine go_bipush dX10_told_135 (by decide) (by decide) ?_
              refine gx_iaload (v := (M 284 25)) 25 dX10_told_137 kd_284 (by omega) ln_284 (by omega) (by omega) rfl ?_
              refine go_iret dX10_told_138 rfl rfl ⟨_, rfl, ?_⟩
              rw [sel_at 5 (by omega) rfl] at hQ
              exact hQ
            · skip
              by_cases s8 : a = 6
              · refine go_tblIn (tgt := 139) dX10_told_1 (by omega) (by omega) (by rw [s8]; rfl) rfl ?_
                refine go_aload_n 0 dX10_told_139 rfl rfl ?_
                refine go_getR (r := 284) dX10_told_140 lk10_22.get kd_279 (by omega) rfl (pp_279_8 w) ?_
                refine go_bipush dX10_told_143 (by decide) (by decide) ?_
                refine gx_iaload (v := (M 284 26)) 26 dX10_told_145 kd_284 (by omega) ln_284 (by omega) (by omega) rfl ?_
                refine go_iret dX10_told_146 rfl rfl ⟨_, rfl, ?_⟩
                rw [sel_at 6 (by omega) rfl] at hQ
                exact hQ
              · skip
                by_cases s9 : a = 7
                · refine go_tblIn (tgt := 147) dX10_told_1 (by omega) (by omega) (by rw [s9]; rfl) rfl ?_
                  refine go_aload_n 0 dX10_told_147 rfl rfl ?_
                  refine go_getR (r := 284) dX10_told_148 lk10_22.get kd_279 (by omega) rfl (pp_279_8 w) ?_
                  refine go_bipush dX10_told_151 (by decide) (by decide) ?_
                  refine gx_iaload (v := (M 284 27)) 27 dX10_told_153 kd_284 (by omega) ln_284 (by omega) (by omega) rfl ?_
                  refine go_iret dX10_told_154 rfl rfl ⟨_, rfl, ?_⟩
                  rw [sel_at 7 (by omega) rfl] at hQ
                  exact hQ
                · skip
                  by_cases s10 : a = 8
                  · refine go_tblIn (tgt := 155) dX10_told_1 (by omega) (by omega) (by rw [s10]; rfl) rfl ?_
                    refine go_aload_n 0 dX10_told_155 rfl rfl ?_
                    refine go_callVI (av := []) (st := []) (a := 279) (mc2 := 0) (ms2 := 0) dX10_told_156 cw10_188 (by decide) rfl rfl (Nat.le_of_ble_eq_true rfl) rfl rfl kd_279 ⟨_, _, rfl⟩ (by decide) (by omega) (ok_X10_allThick hL ?_)
                    refine go_iret dX10_told_159 rfl rfl ⟨_, rfl, ?_⟩
                    rw [sel_at 8 (by omega) rfl] at hQ
                    exact hQ
                  · skip
                    by_cases s11 : a = 9
                    · refine go_tblIn (tgt := 160) dX10_told_1 (by omega) (by omega) (by rw [s11]; rfl) rfl ?_
                      refine go_aload_n 0 dX10_told_160 rfl rfl ?_
                      refine go_callVI (av := []) (st := []) (a := 279) (mc2 := 0) (ms2 := 0) dX10_told_161 cw10_198 (by decide) rfl rfl (Nat.le_of_ble_eq_true rfl) rfl rfl kd_279 ⟨_, _, rfl⟩ (by decide) (by omega) (ok_X10_cut hL ?_)
                      refine go_iret dX10_told_164 rfl rfl ⟨_, rfl, ?_⟩
                      rw [sel_at 9 (by omega) rfl] at hQ
                      exact hQ
                    · skip
                      by_cases s12 : a = 10
                      · refine go_tblIn (tgt := 165) dX10_told_1 (by omega) (by omega) (by rw [s12]; rfl) rfl ?_
                        refine go_aload_n 0 dX10_told_165 rfl rfl ?_
                        refine go_callVI (av := []) (st := []) (a := 279) (mc2 := 0) (ms2 := 0) dX10_told_166 cw10_201 (by decide) rfl rfl (Nat.le_of_ble_eq_true rfl) rfl rfl kd_279 ⟨_, _, rfl⟩ (by decide) (by omega) (ok_X10_canBeOnes hT hL ?_)
                        refine go_iret dX10_told_169 rfl rfl ⟨_, rfl, ?_⟩
                        rw [sel_at 10 (by omega) rfl] at hQ
                        exact hQ
                      · skip
                        by_cases s13 : a = 11
                        · refine go_tblIn (tgt := 170) dX10_told_1 (by omega) (by omega) (by rw [s13]; rfl) rfl ?_
                          refine go_aload_n 0 dX10_told_170 rfl rfl ?_
                          refine go_callVI (av := []) (st := []) (a := 279) (mc2 := 0) (ms2 := 0) dX10_told_171 cw10_204 (by decide) rfl rfl (Nat.le_of_ble_eq_true rfl) rfl rfl kd_279 ⟨_, _, rfl⟩ (by decide) (by omega) (ok_X10_sure hT hL ?_)
                          refine go_iret dX10_told_174 rfl rfl ⟨_, rfl, ?_⟩
                          rw [sel_at 11 (by omega) rfl] at hQ
                          exact hQ
                        · skip
                          by_cases s14 : a = 12
                          · refine go_tblIn (tgt := 175) dX10_told_1 (by omega) (by omega) (by rw [s14]; rfl) rfl ?_
                            refine go_aload_n 0 dX10_told_175 rfl rfl ?_
                            refine go_callVI (av := []) (st := []) (a := 279) (mc2 := 0) (ms2 := 0) dX10_told_176 cw10_207 (by decide) rfl rfl (Nat.le_of_ble_eq_true rfl) rfl rfl kd_279 ⟨_, _, rfl⟩ (by decide) (by omega) (ok_X10_law hL ?_)
                            refine go_iret dX10_told_179 rfl rfl ⟨_, rfl, ?_⟩
                            rw [sel_at 12 (by omega) rfl] at hQ
                            exact hQ
                          · skip
                            by_cases s15 : a = 13
                            · refine go_tblIn (tgt := 180) dX10_told_1 (by omega) (by omega) (by rw [s15]; rfl) rfl ?_
                              refine go_aload_n 0 dX10_told_180 rfl rfl ?_
                              refine go_aload_n 0 dX10_told_181 rfl rfl ?_
                              refine go_getR (r := 284) dX10_told_182 lk10_22.get kd_279 (by omega) rfl (pp_279_8 w) ?_
                              refine go_bipush dX10_told_185 (by decide) (by decide) ?_
                              refine go_callVI (av := [vR 284, vI 29]) (st := []) (a := 279) (mc2 := 0) (ms2 := 0) dX10_told_187 cw10_210 (by decide) rfl rfl (Nat.le_of_ble_eq_true rfl) rfl rfl kd_279 ⟨_, _, rfl⟩ (by decide) (by omega) (ok_X10_envyBy_now hE hg ?_)
                              refine go_iret dX10_told_190 rfl rfl ⟨_, rfl, ?_⟩
                              rw [sel_at 13 (by omega) rfl] at hQ
                              exact hQ
                            · skip
                              by_cases s16 : a = 14
                              · refine go_tblIn (tgt := 191) dX10_told_1 (by omega) (by omega) (by rw [s16]; rfl) rfl ?_
                                refine go_aload_n 0 dX10_told_191 rfl rfl ?_
                                refine go_callVI (av := []) (st := []) (a := 279) (mc2 := 0) (ms2 := 0) dX10_told_192 cw10_214 (by decide) rfl rfl (Nat.le_of_ble_eq_true rfl) rfl rfl kd_279 ⟨_, _, rfl⟩ (by decide) (by omega) (weeps_any hE ?_)
                                refine go_iret dX10_told_195 rfl rfl ⟨_, rfl, ?_⟩
                                rw [sel_at 14 (by omega) rfl] at hQ
                                exact hQ
                              · skip
                                by_cases s17 : a = 15
                                · refine go_tblIn (tgt := 196) dX10_told_1 (by omega) (by omega) (by rw [s17]; rfl) rfl ?_
                                  refine go_aload_n 0 dX10_told_196 rfl rfl ?_
                                  refine go_callVI (av := []) (st := []) (a := 279) (mc2 := 0) (ms2 := 0) dX10_told_197 cw10_217 (by decide) rfl rfl (Nat.le_of_ble_eq_true rfl) rfl rfl kd_279 ⟨_, _, rfl⟩ (by decide) (by omega) (ok_X10_dryIn hE htr hqu ?_)
                                  refine go_iret dX10_told_200 rfl rfl ⟨_, rfl, ?_⟩
                                  rw [sel_at 15 (by omega) rfl] at hQ
                                  exact hQ
                                · skip
                                  by_cases s18 : a = 16
                                  · refine go_tblIn (tgt := 201) dX10_told_1 (by omega) (by omega) (by rw [s18]; rfl) rfl ?_
                                    refine go_aload_n 0 dX10_told_201 rfl rfl ?_
                                    refine go_getR (r := 284) dX10_told_202 lk10_22.get kd_279 (by omega) rfl (pp_279_8 w) ?_
                                    refine go_bipush dX10_told_205 (by decide) (by decide) ?_
                                    refine gx_iaload (v := (M 284 44)) 44 dX10_told_207 kd_284 (by omega) ln_284 (by omega) (by omega) rfl ?_
                                    refine go_iret dX10_told_208 rfl rfl ⟨_, rfl, ?_⟩
                                    rw [sel_at 16 (by omega) rfl] at hQ
                                    exact hQ
                                  · skip
                                    by_cases s19 : a = 17
                                    · refine go_tblIn (tgt := 209) dX10_told_1 (by omega) (by omega) (by rw [s19]; rfl) rfl ?_
                                      refine go_aload_n 0 dX10_told_209 rfl rfl ?_
                                      refine gx_getI (v := (M 279 13)) dX10_told_210 lk10_173.get kd_279 (by omega) rfl rfl ?_
                                      refine go_iret dX10_told_213 rfl rfl ⟨_, rfl, ?_⟩
                                      rw [sel_at 17 (by omega) rfl] at hQ
                                      exact hQ
                                    · skip
                                      by_cases s20 : a = 18
                                      · refine go_tblIn (tgt := 214) dX10_told_1 (by omega) (by omega) (by rw [s20]; rfl) rfl ?_
                                        refine go_aload_n 0 dX10_told_214 rfl rfl ?_
                                        refine gx_getI (v := (M 279 10)) dX10_told_215 lk10_176.get kd_279 (by omega) rfl rfl ?_
                                        refine go_iret dX10_told_218 rfl rfl ⟨_, rfl, ?_⟩
                                        rw [sel_at 18 (by omega) rfl] at hQ
                                        exact hQ
                                      · skip
                                        by_cases s21 : a = 19
                                        · refine go_tblIn (tgt := 219) dX10_told_1 (by omega) (by omega) (by rw [s21]; rfl) rfl ?_
                                          refine go_aload_n 0 dX10_told_219 rfl rfl ?_
                                          refine gx_getI (v := (M 279 33)) dX10_told_220 lk10_179.get kd_279 (by omega) rfl rfl ?_
                                          refine go_iret dX10_told_223 rfl rfl ⟨_, rfl, ?_⟩
                                          rw [sel_at 19 (by omega) rfl] at hQ
                                          exact hQ
                                        · skip
                                          refine go_tblOut (tgt := 224) dX10_told_1 (by omega) rfl ?_
                                          refine go_ldc dX10_told_224 ik10_96 (by decide) ?_
                                          refine go_iret dX10_told_226 rfl rfl ⟨_, rfl, ?_⟩
                                          rw [sel_out 20 rfl (by omega)] at hQ
                                          exact hQ

set_option maxHeartbeats 4000000 in
set_option maxRecDepth 100000 in
theorem ok_X10_layer_in {w L : Nat} {M : inm} {j : Nat} {k a : Int} {Q : Int → Nat → rfm → inm → Prop} (hL : Lay10 M L) (hj : j < L) (hQ : Q (sel [M 284 (j + 1), M 284 (j + 13), worth (M 284 (j + 1)) (M 284 (j + 13)), sting (M 284 (j + 1)) (M 284 (j + 13))] a (-1000000002)) 303 (PP w) M) : OkI yX10_layer cX10_layer 3 2 0 0 (some .int) [vR 279, vI ((j : Nat) : Int), vI a] 303 (PP w) M Q := by
  refine OkI.of (by decide +kernel) (by decide +kernel) (Nat.le_of_ble_eq_true rfl) ?_
  refine go_eq (lv' := [(0, vR 279), (1, vI ((j : Nat) : Int)), (2, vI a)]) rfl rfl rfl rfl rfl ?_
  have hL12 := hL.2.1
  refine go_aload_n 0 dX10_layer_0 rfl rfl ?_
  refine go_iload_n 1 dX10_layer_1 rfl rfl ?_
  refine go_callVI (av := [vI ((j : Nat) : Int)]) (st := []) (a := 279) (mc2 := 0) (ms2 := 0) dX10_layer_2 cw10_220 (by decide) rfl rfl (Nat.le_of_ble_eq_true rfl) rfl rfl kd_279 ⟨_, _, rfl⟩ (by decide) (by omega) (ok_X10_isLayer hL.1 hL.2.1 (fun _ _ => ?_) (fun h => absurd ⟨by omega, by omega⟩ h))
  refine go_if_ne (tgt := 11) dX10_layer_5 rfl (fun c1 => ?_) (fun c1 => ?_)
  · refine go_iload_n 2 dX10_layer_11 rfl rfl ?_
    refine go_if_ne (tgt := 26) dX10_layer_12 rfl (fun c2 => ?_) (fun c2 => ?_)
    · refine go_iload_n 2 dX10_layer_26 rfl rfl ?_
      refine go_iconst dX10_layer_27 (by decide) ?_
      refine go_icmp_ne (tgt := 43) dX10_layer_28 rfl (fun c3 => ?_) (fun c3 => ?_)
      · refine go_iload_n 2 dX10_layer_43 rfl rfl ?_
        refine go_iconst dX10_layer_44 (by decide) ?_
        refine go_icmp_ne (tgt := 56) dX10_layer_45 rfl (fun c4 => ?_) (fun c4 => ?_)
        · refine go_iload_n 2 dX10_layer_56 rfl rfl ?_
          refine go_iconst dX10_layer_57 (by decide) ?_
          refine go_icmp_ne (tgt := 69) dX10_layer_58 rfl (fun c5 => ?_) (fun c5 => ?_)
          · refine go_ldc dX10_layer_69 ik10_96 (by decide) ?_
            refine go_iret dX10_layer_71 rfl rfl ⟨_, rfl, ?_⟩
            first | (rw [sel_at 0 (by omega) rfl] at hQ; exact hQ) | (rw [sel_at 1 (by omega) rfl] at hQ; exact hQ) | (rw [sel_at 2 (by omega) rfl] at hQ; exact hQ) | (rw [sel_at 3 (by omega) rfl] at hQ; exact hQ) | (rw [sel_out 4 rfl (by omega)] at hQ; exact hQ)
          · refine go_aload_n 0 dX10_layer_61 rfl rfl ?_
            refine go_iload_n 1 dX10_layer_62 rfl rfl ?_
            refine go_callVI (av := [vI ((j : Nat) : Int)]) (st := []) (a := 279) (mc2 := 0) (ms2 := 0) dX10_layer_63 cw10_227 (by decide) rfl rfl (Nat.le_of_ble_eq_true rfl) rfl rfl kd_279 ⟨_, _, rfl⟩ (by decide) (by omega) (ok_X10_stingOf (k := j) (by omega) (hL.2.2.1 j (by omega)) ?_)
            refine go_goto (tgt := 71) dX10_layer_66 rfl ?_
            refine go_iret dX10_layer_71 rfl rfl ⟨_, rfl, ?_⟩
            first | (rw [sel_at 0 (by omega) rfl] at hQ; exact hQ) | (rw [sel_at 1 (by omega) rfl] at hQ; exact hQ) | (rw [sel_at 2 (by omega) rfl] at hQ; exact hQ) | (rw [sel_at 3 (by omega) rfl] at hQ; exact hQ) | (rw [sel_out 4 rfl (by omega)] at hQ; exact hQ)
        · refine go_aload_n 0 dX10_layer_48 rfl rfl ?_
          refine go_iload_n 1 dX10_layer_49 rfl rfl ?_
          refine go_callVI (av := [vI ((j : Nat) : Int)]) (st := []) (a := 279) (mc2 := 0) (ms2 := 0) dX10_layer_50 cw10_224 (by decide) rfl rfl (Nat.le_of_ble_eq_true rfl) rfl rfl kd_279 ⟨_, _, rfl⟩ (by decide) (by omega) (ok_X10_worthOf (k := j) (by omega) (hL.2.2.1 j (by omega)) ?_)
          refine go_goto (tgt := 71) dX10_layer_53 rfl ?_
          refine go_iret dX10_layer_71 rfl rfl ⟨_, rfl, ?_⟩
          first | (rw [sel_at 0 (by omega) rfl] at hQ; exact hQ) | (rw [sel_at 1 (by omega) rfl] at hQ; exact hQ) | (rw [sel_at 2 (by omega) rfl] at hQ; exact hQ) | (rw [sel_at 3 (by omega) rfl] at hQ; exact hQ) | (rw [sel_out 4 rfl (by omega)] at hQ; exact hQ)
      · refine go_aload_n 0 dX10_layer_31 rfl rfl ?_
        refine go_getR (r := 284) dX10_layer_32 lk10_22.get kd_279 (by omega) rfl (pp_279_8 w) ?_
        refine go_bipush dX10_layer_35 (by decide) (by decide) ?_
        refine go_iload_n 1 dX10_layer_37 rfl rfl ?_
        refine gx_iadd (v := ((j + 13 : Nat) : Int)) dX10_layer_38 (by omega) ⟨by omega, by omega⟩ ?_
        refine gx_iaload (v := (M 284 (j + 13))) (j + 13) dX10_layer_39 kd_284 (by omega) ln_284 rfl (by omega) rfl ?_
        refine go_goto (tgt := 71) dX10_layer_40 rfl ?_
        refine go_iret dX10_layer_71 rfl rfl ⟨_, rfl, ?_⟩
        first | (rw [sel_at 0 (by omega) rfl] at hQ; exact hQ) | (rw [sel_at 1 (by omega) rfl] at hQ; exact hQ) | (rw [sel_at 2 (by omega) rfl] at hQ; exact hQ) | (rw [sel_at 3 (by omega) rfl] at hQ; exact hQ) | (rw [sel_out 4 rfl (by omega)] at hQ; exact hQ)
    · refine go_aload_n 0 dX10_layer_15 rfl rfl ?_
      refine go_getR (r := 284) dX10_layer_16 lk10_22.get kd_279 (by omega) rfl (pp_279_8 w) ?_
      refine go_iconst dX10_layer_19 (by decide) ?_
      refine go_iload_n 1 dX10_layer_20 rfl rfl ?_
      refine gx_iadd (v := ((j + 1 : Nat) : Int)) dX10_layer_21 (by omega) ⟨by omega, by omega⟩ ?_
      refine gx_iaload (v := (M 284 (j + 1))) (j + 1) dX10_layer_22 kd_284 (by omega) ln_284 rfl (by omega) rfl ?_
      refine go_goto (tgt := 71) dX10_layer_23 rfl ?_
      refine go_iret dX10_layer_71 rfl rfl ⟨_, rfl, ?_⟩
      first | (rw [sel_at 0 (by omega) rfl] at hQ; exact hQ) | (rw [sel_at 1 (by omega) rfl] at hQ; exact hQ) | (rw [sel_at 2 (by omega) rfl] at hQ; exact hQ) | (rw [sel_at 3 (by omega) rfl] at hQ; exact hQ) | (rw [sel_out 4 rfl (by omega)] at hQ; exact hQ)
  · exact absurd c1 (by decide)

set_option maxHeartbeats 4000000 in
set_option maxRecDepth 100000 in
theorem ok_X10_layer_out {w L : Nat} {M : inm} {j : Nat} {k a : Int} {Q : Int → Nat → rfm → inm → Prop} (hL : Lay10 M L) (hk : ¬ (0 ≤ k ∧ k < (L : Int))) (hQ : Q (-1000000001) 303 (PP w) M) : OkI yX10_layer cX10_layer 3 2 0 0 (some .int) [vR 279, vI k, vI a] 303 (PP w) M Q := by
  refine OkI.of (by decide +kernel) (by decide +kernel) (Nat.le_of_ble_eq_true rfl) ?_
  refine go_eq (lv' := [(0, vR 279), (1, vI k), (2, vI a)]) rfl rfl rfl rfl rfl ?_
  refine go_aload_n 0 dX10_layer_0 rfl rfl ?_
  refine go_iload_n 1 dX10_layer_1 rfl rfl ?_
  refine go_callVI (av := [vI k]) (st := []) (a := 279) (mc2 := 0) (ms2 := 0) dX10_layer_2 cw10_220 (by decide) rfl rfl (Nat.le_of_ble_eq_true rfl) rfl rfl kd_279 ⟨_, _, rfl⟩ (by decide) (by omega) (ok_X10_isLayer hL.1 hL.2.1 (fun q1 q2 => absurd ⟨q1, q2⟩ hk) (fun _ => ?_))
  refine go_if_ne (tgt := 11) dX10_layer_5 rfl (fun c1 => ?_) (fun c1 => ?_)
  · exact absurd c1 (by decide)
  · refine go_ldc dX10_layer_8 ik10_223 (by decide) ?_
    refine go_iret dX10_layer_10 rfl rfl ⟨_, rfl, ?_⟩
    exact hQ

set_option maxHeartbeats 4000000 in
set_option maxRecDepth 100000 in
theorem ok_X10_executor_in {w E : Nat} {M : inm} {j : Nat} {k a : Int} {Q : Int → Nat → rfm → inm → Prop} (hE : M 279 2 = (E : Int) ∧ E ≤ 5) (hj : j < E) (hQ : Q (sel [M 280 j, M 281 j, M 284 (j + 29), M 284 (j + 34), M 284 (j + 39)] a (-1000000002)) 303 (PP w) M) : OkI yX10_executor cX10_executor 3 2 0 0 (some .int) [vR 279, vI ((j : Nat) : Int), vI a] 303 (PP w) M Q := by
  refine OkI.of (by decide +kernel) (by decide +kernel) (Nat.le_of_ble_eq_true rfl) ?_
  refine go_eq (lv' := [(0, vR 279), (1, vI ((j : Nat) : Int)), (2, vI a)]) rfl rfl rfl rfl rfl ?_
  have hE5 := hE.2
  refine go_aload_n 0 dX10_executor_0 rfl rfl ?_
  refine go_iload_n 1 dX10_executor_1 rfl rfl ?_
  refine go_callVI (av := [vI ((j : Nat) : Int)]) (st := []) (a := 279) (mc2 := 0) (ms2 := 0) dX10_executor_2 cw10_230 (by decide) rfl rfl (Nat.le_of_ble_eq_true rfl) rfl rfl kd_279 ⟨_, _, rfl⟩ (by decide) (by omega) (ok_X10_isExecutor hE (fun _ _ => ?_) (fun h => absurd ⟨by omega, by omega⟩ h))
  refine go_if_ne (tgt := 11) dX10_executor_5 rfl (fun c1 => ?_) (fun c1 => ?_)
  · refine go_iload_n 2 dX10_executor_11 rfl rfl ?_
    refine go_if_ne (tgt := 24) dX10_executor_12 rfl (fun c2 => ?_) (fun c2 => ?_)
    · refine go_iload_n 2 dX10_executor_24 rfl rfl ?_
      refine go_iconst dX10_executor_25 (by decide) ?_
      refine go_icmp_ne (tgt := 38) dX10_executor_26 rfl (fun c3 => ?_) (fun c3 => ?_)
      · refine go_iload_n 2 dX10_executor_38 rfl rfl ?_
        refine go_iconst dX10_executor_39 (by decide) ?_
        refine go_icmp_ne (tgt := 55) dX10_executor_40 rfl (fun c4 => ?_) (fun c4 => ?_)
        · refine go_iload_n 2 dX10_executor_55 rfl rfl ?_
          refine go_iconst dX10_executor_56 (by decide) ?_
          refine go_icmp_ne (tgt := 72) dX10_executor_57 rfl (fun c5 => ?_) (fun c5 => ?_)
          · refine go_iload_n 2 dX10_executor_72 rfl rfl ?_
            refine go_iconst dX10_executor_73 (by decide) ?_
            refine go_icmp_ne (tgt := 89) dX10_executor_74 rfl (fun c6 => ?_) (fun c6 => ?_)
            · refine go_ldc dX10_executor_89 ik10_96 (by decide) ?_
              refine go_iret dX10_executor_91 rfl rfl ⟨_, rfl, ?_⟩
              first | (rw [sel_at 0 (by omega) rfl] at hQ; exact hQ) | (rw [sel_at 1 (by omega) rfl] at hQ; exact hQ) | (rw [sel_at 2 (by omega) rfl] at hQ; exact hQ) | (rw [sel_at 3 (by omega) rfl] at hQ; exact hQ) | (rw [sel_at 4 (by omega) rfl] at hQ; exact hQ) | (rw [sel_out 5 rfl (by omega)] at hQ; exact hQ)
            · refine go_aload_n 0 dX10_executor_77 rfl rfl ?_
              refine go_getR (r := 284) dX10_executor_78 lk10_22.get kd_279 (by omega) rfl (pp_279_8 w) ?_
              refine go_bipush dX10_executor_81 (by decide) (by decide) ?_
              refine go_iload_n 1 dX10_executor_83 rfl rfl ?_
              refine gx_iadd (v := ((j + 39 : Nat) : Int)) dX10_executor_84 (by omega) ⟨by omega, by omega⟩ ?_
              refine gx_iaload (v := (M 284 (j + 39))) (j + 39) dX10_executor_85 kd_284 (by omega) ln_284 rfl (by omega) rfl ?_
              refine go_goto (tgt := 91) dX10_executor_86 rfl ?_
              refine go_iret dX10_executor_91 rfl rfl ⟨_, rfl, ?_⟩
              first | (rw [sel_at 0 (by omega) rfl] at hQ; exact hQ) | (rw [sel_at 1 (by omega) rfl] at hQ; exact hQ) | (rw [sel_at 2 (by omega) rfl] at hQ; exact hQ) | (rw [sel_at 3 (by omega) rfl] at hQ; exact hQ) | (rw [sel_at 4 (by omega) rfl] at hQ; exact hQ) | (rw [sel_out 5 rfl (by omega)] at hQ; exact hQ)
          · refine go_aload_n 0 dX10_executor_60 rfl rfl ?_
            refine go_getR (r := 284) dX10_executor_61 lk10_22.get kd_279 (by omega) rfl (pp_279_8 w) ?_
            refine go_bipush dX10_executor_64 (by decide) (by decide) ?_
            refine go_iload_n 1 dX10_executor_66 rfl rfl ?_
            refine gx_iadd (v := ((j + 34 : Nat) : Int)) dX10_executor_67 (by omega) ⟨by omega, by omega⟩ ?_
            refine gx_iaload (v := (M 284 (j + 34))) (j + 34) dX10_executor_68 kd_284 (by omega) ln_284 rfl (by omega) rfl ?_
            refine go_goto (tgt := 91) dX10_executor_69 rfl ?_
            refine go_iret dX10_executor_91 rfl rfl ⟨_, rfl, ?_⟩
            first | (rw [sel_at 0 (by omega) rfl] at hQ; exact hQ) | (rw [sel_at 1 (by omega) rfl] at hQ; exact hQ) | (rw [sel_at 2 (by omega) rfl] at hQ; exact hQ) | (rw [sel_at 3 (by omega) rfl] at hQ; exact hQ) | (rw [sel_at 4 (by omega) rfl] at hQ; exact hQ) | (rw [sel_out 5 rfl (by omega)] at hQ; exact hQ)
        · refine go_aload_n 0 dX10_executor_43 rfl rfl ?_
          refine go_getR (r := 284) dX10_executor_44 lk10_22.get kd_279 (by omega) rfl (pp_279_8 w) ?_
          refine go_bipush dX10_executor_47 (by decide) (by decide) ?_
          refine go_iload_n 1 dX10_executor_49 rfl rfl ?_
          refine gx_iadd (v := ((j + 29 : Nat) : Int)) dX10_executor_50 (by omega) ⟨by omega, by omega⟩ ?_
          refine gx_iaload (v := (M 284 (j + 29))) (j + 29) dX10_executor_51 kd_284 (by omega) ln_284 rfl (by omega) rfl ?_
          refine go_goto (tgt := 91) dX10_executor_52 rfl ?_
          refine go_iret dX10_executor_91 rfl rfl ⟨_, rfl, ?_⟩
          first | (rw [sel_at 0 (by omega) rfl] at hQ; exact hQ) | (rw [sel_at 1 (by omega) rfl] at hQ; exact hQ) | (rw [sel_at 2 (by omega) rfl] at hQ; exact hQ) | (rw [sel_at 3 (by omega) rfl] at hQ; exact hQ) | (rw [sel_at 4 (by omega) rfl] at hQ; exact hQ) | (rw [sel_out 5 rfl (by omega)] at hQ; exact hQ)
      · refine go_aload_n 0 dX10_executor_29 rfl rfl ?_
        refine go_getR (r := 281) dX10_executor_30 lk10_13.get kd_279 (by omega) rfl (pp_279_4 w) ?_
        refine go_iload_n 1 dX10_executor_33 rfl rfl ?_
        refine gx_iaload (v := (M 281 j)) j dX10_executor_34 kd_281 (by omega) ln_281 rfl (by omega) rfl ?_
        refine go_goto (tgt := 91) dX10_executor_35 rfl ?_
        refine go_iret dX10_executor_91 rfl rfl ⟨_, rfl, ?_⟩
        first | (rw [sel_at 0 (by omega) rfl] at hQ; exact hQ) | (rw [sel_at 1 (by omega) rfl] at hQ; exact hQ) | (rw [sel_at 2 (by omega) rfl] at hQ; exact hQ) | (rw [sel_at 3 (by omega) rfl] at hQ; exact hQ) | (rw [sel_at 4 (by omega) rfl] at hQ; exact hQ) | (rw [sel_out 5 rfl (by omega)] at hQ; exact hQ)
    · refine go_aload_n 0 dX10_executor_15 rfl rfl ?_
      refine go_getR (r := 280) dX10_executor_16 lk10_7.get kd_279 (by omega) rfl (pp_279_3 w) ?_
      refine go_iload_n 1 dX10_executor_19 rfl rfl ?_
      refine gx_iaload (v := (M 280 j)) j dX10_executor_20 kd_280 (by omega) ln_280 rfl (by omega) rfl ?_
      refine go_goto (tgt := 91) dX10_executor_21 rfl ?_
      refine go_iret dX10_executor_91 rfl rfl ⟨_, rfl, ?_⟩
      first | (rw [sel_at 0 (by omega) rfl] at hQ; exact hQ) | (rw [sel_at 1 (by omega) rfl] at hQ; exact hQ) | (rw [sel_at 2 (by omega) rfl] at hQ; exact hQ) | (rw [sel_at 3 (by omega) rfl] at hQ; exact hQ) | (rw [sel_at 4 (by omega) rfl] at hQ; exact hQ) | (rw [sel_out 5 rfl (by omega)] at hQ; exact hQ)
  · exact absurd c1 (by decide)

set_option maxHeartbeats 4000000 in
set_option maxRecDepth 100000 in
theorem ok_X10_executor_out {w E : Nat} {M : inm} {j : Nat} {k a : Int} {Q : Int → Nat → rfm → inm → Prop} (hE : M 279 2 = (E : Int) ∧ E ≤ 5) (hk : ¬ (0 ≤ k ∧ k < (E : Int))) (hQ : Q (-1000000001) 303 (PP w) M) : OkI yX10_executor cX10_executor 3 2 0 0 (some .int) [vR 279, vI k, vI a] 303 (PP w) M Q := by
  refine OkI.of (by decide +kernel) (by decide +kernel) (Nat.le_of_ble_eq_true rfl) ?_
  refine go_eq (lv' := [(0, vR 279), (1, vI k), (2, vI a)]) rfl rfl rfl rfl rfl ?_
  refine go_aload_n 0 dX10_executor_0 rfl rfl ?_
  refine go_iload_n 1 dX10_executor_1 rfl rfl ?_
  refine go_callVI (av := [vI k]) (st := []) (a := 279) (mc2 := 0) (ms2 := 0) dX10_executor_2 cw10_230 (by decide) rfl rfl (Nat.le_of_ble_eq_true rfl) rfl rfl kd_279 ⟨_, _, rfl⟩ (by decide) (by omega) (ok_X10_isExecutor hE (fun q1 q2 => absurd ⟨q1, q2⟩ hk) (fun _ => ?_))
  refine go_if_ne (tgt := 11) dX10_executor_5 rfl (fun c1 => ?_) (fun c1 => ?_)
  · exact absurd c1 (by decide)
  · refine go_ldc dX10_executor_8 ik10_223 (by decide) ?_
    refine go_iret dX10_executor_10 rfl rfl ⟨_, rfl, ?_⟩
    exact hQ

set_option maxHeartbeats 4000000 in
set_option maxRecDepth 100000 in
theorem ok_X10_kindIn {w T j : Nat} {lt : Nat → Nat} {M : inm} {i : Nat} {Q : Int → Nat → rfm → inm → Prop} (hT : Tys10 M T lt) (hj : j < T) (hQ : Q (kindV lt (fun t k => M 283 (8 * t + k)) j i) 303 (PP w) M) : OkI yX10_kindIn cX10_kindIn 3 0 0 0 (some .int) [vR 279, vI ((j : Nat) : Int), vI ((i : Nat) : Int)] 303 (PP w) M Q := by
  refine OkI.of (by decide +kernel) (by decide +kernel) (Nat.le_of_ble_eq_true rfl) ?_
  refine go_eq (lv' := [(0, vR 279), (1, vI ((j : Nat) : Int)), (2, vI ((i : Nat) : Int))]) rfl rfl rfl rfl rfl ?_
  have hT6 := hT.2.1
  have hl8 := (hT.2.2.1 j hj).2
  refine go_iload_n 2 dX10_kindIn_0 rfl rfl ?_
  refine go_aload_n 0 dX10_kindIn_1 rfl rfl ?_
  refine go_getR (r := 282) dX10_kindIn_2 lk10_16.get kd_279 (by omega) rfl (pp_279_6 w) ?_
  refine go_iload_n 1 dX10_kindIn_5 rfl rfl ?_
  refine gx_iaload (v := ((lt j : Nat) : Int)) j dX10_kindIn_6 kd_282 (by omega) ln_282 rfl (by omega) ((hT.2.2.1 j hj).1) ?_
  refine go_icmp_ge (tgt := 24) dX10_kindIn_7 rfl (fun c1 => ?_) (fun c1 => ?_)
  · refine go_iconst dX10_kindIn_24 (by decide) ?_
    refine go_iret dX10_kindIn_25 rfl rfl ⟨_, rfl, ?_⟩
    rw [kindV] at hQ
    first | (rw [if_pos (by omega)] at hQ; exact hQ) | (rw [if_neg (by omega)] at hQ; exact hQ)
  · refine go_aload_n 0 dX10_kindIn_10 rfl rfl ?_
    refine go_getR (r := 283) dX10_kindIn_11 lk10_19.get kd_279 (by omega) rfl (pp_279_7 w) ?_
    refine go_bipush dX10_kindIn_14 (by decide) (by decide) ?_
    refine go_iload_n 1 dX10_kindIn_16 rfl rfl ?_
    refine gx_imul (v := ((8 * j : Nat) : Int)) dX10_kindIn_17 (by omega) ⟨by omega, by omega⟩ ?_
    refine go_iload_n 2 dX10_kindIn_18 rfl rfl ?_
    refine gx_iadd (v := (((8 * j) + i : Nat) : Int)) dX10_kindIn_19 (by omega) ⟨by omega, by omega⟩ ?_
    refine gx_iaload (v := (M 283 ((8 * j) + i))) ((8 * j) + i) dX10_kindIn_20 kd_283 (by omega) ln_283 rfl (by omega) rfl ?_
    refine go_goto (tgt := 25) dX10_kindIn_21 rfl ?_
    refine go_iret dX10_kindIn_25 rfl rfl ⟨_, rfl, ?_⟩
    rw [kindV] at hQ
    first | (rw [if_pos (by omega)] at hQ; exact hQ) | (rw [if_neg (by omega)] at hQ; exact hQ)

set_option maxHeartbeats 4000000 in
set_option maxRecDepth 100000 in
theorem ok_X10_type_in {w T j : Nat} {lt : Nat → Nat} {M : inm} {i : Nat} {Q : Int → Nat → rfm → inm → Prop} (hT : Tys10 M T lt) (hj : j < T) (hi : i < 8) (hQ : Q (kindV lt (fun t k => M 283 (8 * t + k)) j i) 303 (PP w) M) : OkI yX10_type cX10_type 3 1 0 0 (some .int) [vR 279, vI ((j : Nat) : Int), vI ((i : Nat) : Int)] 303 (PP w) M Q := by
  refine OkI.of (by decide +kernel) (by decide +kernel) (Nat.le_of_ble_eq_true rfl) ?_
  refine go_eq (lv' := [(0, vR 279), (1, vI ((j : Nat) : Int)), (2, vI ((i : Nat) : Int))]) rfl rfl rfl rfl rfl ?_
  have hT6 := hT.2.1
  have hl8 := (hT.2.2.1 j hj).2
  refine go_iload_n 1 dX10_type_0 rfl rfl ?_
  refine go_i2l dX10_type_1 ?_
  refine go_lconst (z := 0) dX10_type_2 (by decide) (by decide) ?_
  refine go_aload_n 0 dX10_type_3 rfl rfl ?_
  refine gx_getI (v := ((T : Nat) : Int)) dX10_type_4 lk10_164.get kd_279 (by omega) rfl hT.1 ?_
  refine go_iconst dX10_type_7 (by decide) ?_
  refine gx_isub (v := (((T : Nat) : Int) - 1)) dX10_type_8 rfl ⟨by omega, by omega⟩ ?_
  refine go_i2l dX10_type_9 ?_
  refine go_callSI (av := [vL ((j : Nat) : Int), vL 0, vL (((T : Nat) : Int) - 1)]) (st := []) (mc2 := 0) (ms2 := 0) dX10_type_10 cw10_87 (by decide) rfl rfl (Nat.le_of_ble_eq_true rfl) rfl rfl (ok_X10_in (fun _ _ => ?_) (fun h => absurd ⟨by omega, by omega⟩ h))
  refine go_if_ne (tgt := 19) dX10_type_13 rfl (fun c1 => ?_) (fun c1 => ?_)
  · refine go_iload_n 2 dX10_type_19 rfl rfl ?_
    refine go_i2l dX10_type_20 ?_
    refine go_lconst (z := 0) dX10_type_21 (by decide) (by decide) ?_
    refine go_ldc2 dX10_type_22 jk10_233 (by decide) ?_
    refine go_callSI (av := [vL ((i : Nat) : Int), vL 0, vL 7]) (st := []) (mc2 := 0) (ms2 := 0) dX10_type_25 cw10_87 (by decide) rfl rfl (Nat.le_of_ble_eq_true rfl) rfl rfl (ok_X10_in (fun _ _ => ?_) (fun h => absurd ⟨by omega, by omega⟩ h))
    refine go_if_ne (tgt := 34) dX10_type_28 rfl (fun c2 => ?_) (fun c2 => ?_)
    · refine go_iload_n 2 dX10_type_34 rfl rfl ?_
      refine go_aload_n 0 dX10_type_35 rfl rfl ?_
      refine go_getR (r := 282) dX10_type_36 lk10_16.get kd_279 (by omega) rfl (pp_279_6 w) ?_
      refine go_iload_n 1 dX10_type_39 rfl rfl ?_
      refine gx_iaload (v := ((lt j : Nat) : Int)) j dX10_type_40 kd_282 (by omega) ln_282 rfl (by omega) ((hT.2.2.1 j hj).1) ?_
      refine go_icmp_ge (tgt := 58) dX10_type_41 rfl (fun c3 => ?_) (fun c3 => ?_)
      · refine go_iconst dX10_type_58 (by decide) ?_
        refine go_iret dX10_type_59 rfl rfl ⟨_, rfl, ?_⟩
        rw [kindV] at hQ
        first | (rw [if_pos (by omega)] at hQ; exact hQ) | (rw [if_neg (by omega)] at hQ; exact hQ)
      · refine go_aload_n 0 dX10_type_44 rfl rfl ?_
        refine go_getR (r := 283) dX10_type_45 lk10_19.get kd_279 (by omega) rfl (pp_279_7 w) ?_
        refine go_bipush dX10_type_48 (by decide) (by decide) ?_
        refine go_iload_n 1 dX10_type_50 rfl rfl ?_
        refine gx_imul (v := ((8 * j : Nat) : Int)) dX10_type_51 (by omega) ⟨by omega, by omega⟩ ?_
        refine go_iload_n 2 dX10_type_52 rfl rfl ?_
        refine gx_iadd (v := (((8 * j) + i : Nat) : Int)) dX10_type_53 (by omega) ⟨by omega, by omega⟩ ?_
        refine gx_iaload (v := (M 283 ((8 * j) + i))) ((8 * j) + i) dX10_type_54 kd_283 (by omega) ln_283 rfl (by omega) rfl ?_
        refine go_goto (tgt := 59) dX10_type_55 rfl ?_
        refine go_iret dX10_type_59 rfl rfl ⟨_, rfl, ?_⟩
        rw [kindV] at hQ
        first | (rw [if_pos (by omega)] at hQ; exact hQ) | (rw [if_neg (by omega)] at hQ; exact hQ)
    · exact absurd c2 (by decide)
  · exact absurd c1 (by decide)

set_option maxHeartbeats 4000000 in
set_option maxRecDepth 100000 in
theorem ok_X10_type_out {w T : Nat} {lt : Nat → Nat} {M : inm} {k a : Int} {Q : Int → Nat → rfm → inm → Prop} (hT : Tys10 M T lt) (hk : ¬ ((0 ≤ k ∧ k < (T : Int)) ∧ 0 ≤ a ∧ a < 8)) (h0 : ¬ (0 ≤ k ∧ k < (T : Int)) → Q (-1000000001) 303 (PP w) M) (h1 : (0 ≤ k ∧ k < (T : Int)) → ¬ (0 ≤ a ∧ a < 8) → Q (-1000000002) 303 (PP w) M) : OkI yX10_type cX10_type 3 1 0 0 (some .int) [vR 279, vI k, vI a] 303 (PP w) M Q := by
  refine OkI.of (by decide +kernel) (by decide +kernel) (Nat.le_of_ble_eq_true rfl) ?_
  refine go_eq (lv' := [(0, vR 279), (1, vI k), (2, vI a)]) rfl rfl rfl rfl rfl ?_
  have hT6 := hT.2.1
  refine go_iload_n 1 dX10_type_0 rfl rfl ?_
  refine go_i2l dX10_type_1 ?_
  refine go_lconst (z := 0) dX10_type_2 (by decide) (by decide) ?_
  refine go_aload_n 0 dX10_type_3 rfl rfl ?_
  refine gx_getI (v := ((T : Nat) : Int)) dX10_type_4 lk10_164.get kd_279 (by omega) rfl hT.1 ?_
  refine go_iconst dX10_type_7 (by decide) ?_
  refine gx_isub (v := (((T : Nat) : Int) - 1)) dX10_type_8 rfl ⟨by omega, by omega⟩ ?_
  refine go_i2l dX10_type_9 ?_
  refine go_callSI (av := [vL k, vL 0, vL (((T : Nat) : Int) - 1)]) (st := []) (mc2 := 0) (ms2 := 0) dX10_type_10 cw10_87 (by decide) rfl rfl (Nat.le_of_ble_eq_true rfl) rfl rfl (ok_X10_in (fun i1 i2 => ?_) (fun i3 => ?_))
  · skip
    refine go_if_ne (tgt := 19) dX10_type_13 rfl (fun c4 => ?_) (fun c4 => ?_)
    · refine go_iload_n 2 dX10_type_19 rfl rfl ?_
      refine go_i2l dX10_type_20 ?_
      refine go_lconst (z := 0) dX10_type_21 (by decide) (by decide) ?_
      refine go_ldc2 dX10_type_22 jk10_233 (by decide) ?_
      refine go_callSI (av := [vL a, vL 0, vL 7]) (st := []) (mc2 := 0) (ms2 := 0) dX10_type_25 cw10_87 (by decide) rfl rfl (Nat.le_of_ble_eq_true rfl) rfl rfl (ok_X10_in (fun i5 i6 => ?_) (fun i7 => ?_))
      · skip
        refine go_if_ne (tgt := 34) dX10_type_28 rfl (fun c8 => ?_) (fun c8 => ?_)
        · exfalso; omega
        · exact absurd c8 (by decide)
      · skip
        refine go_if_ne (tgt := 34) dX10_type_28 rfl (fun c9 => ?_) (fun c9 => ?_)
        · exact absurd c9 (by decide)
        · refine go_ldc dX10_type_31 ik10_96 (by decide) ?_
          refine go_iret dX10_type_33 rfl rfl ⟨_, rfl, ?_⟩
          first | exact h0 (by omega) | exact h1 (by omega) (by omega)
    · exact absurd c4 (by decide)
  · skip
    refine go_if_ne (tgt := 19) dX10_type_13 rfl (fun c10 => ?_) (fun c10 => ?_)
    · exact absurd c10 (by decide)
    · refine go_ldc dX10_type_16 ik10_223 (by decide) ?_
      refine go_iret dX10_type_18 rfl rfl ⟨_, rfl, ?_⟩
      first | exact h0 (by omega) | exact h1 (by omega) (by omega)

set_option maxHeartbeats 4000000 in
set_option maxRecDepth 100000 in
theorem ok_X10_logged_in {w n j i : Nat} {M : inm} {Q : Int → Nat → rfm → inm → Prop} (hn : M 284 44 = (n : Int) ∧ n ≤ 20) (hj : j < n) (hi : i < 4) (hQ : Q (M 284 (4 * (n - 1 - j) + 45 + i)) 303 (PP w) M) : OkI yX10_logged cX10_logged 3 1 0 0 (some .int) [vR 279, vI ((j : Nat) : Int), vI ((i : Nat) : Int)] 303 (PP w) M Q := by
  refine OkI.of (by decide +kernel) (by decide +kernel) (Nat.le_of_ble_eq_true rfl) ?_
  refine go_eq (lv' := [(0, vR 279), (1, vI ((j : Nat) : Int)), (2, vI ((i : Nat) : Int))]) rfl rfl rfl rfl rfl ?_
  have hn2 := hn.2
  refine go_iload_n 2 dX10_logged_0 rfl rfl ?_
  refine go_i2l dX10_logged_1 ?_
  refine go_lconst (z := 0) dX10_logged_2 (by decide) (by decide) ?_
  refine go_ldc2 dX10_logged_3 jk10_235 (by decide) ?_
  refine go_callSI (av := [vL ((i : Nat) : Int), vL 0, vL 3]) (st := []) (mc2 := 0) (ms2 := 0) dX10_logged_6 cw10_87 (by decide) rfl rfl (Nat.le_of_ble_eq_true rfl) rfl rfl (ok_X10_in (fun _ _ => ?_) (fun h => absurd ⟨by omega, by omega⟩ h))
  refine go_if_ne (tgt := 15) dX10_logged_9 rfl (fun c1 => ?_) (fun c1 => ?_)
  · refine go_iload_n 1 dX10_logged_15 rfl rfl ?_
    refine go_i2l dX10_logged_16 ?_
    refine go_lconst (z := 0) dX10_logged_17 (by decide) (by decide) ?_
    refine go_aload_n 0 dX10_logged_18 rfl rfl ?_
    refine go_getR (r := 284) dX10_logged_19 lk10_22.get kd_279 (by omega) rfl (pp_279_8 w) ?_
    refine go_bipush dX10_logged_22 (by decide) (by decide) ?_
    refine gx_iaload (v := ((n : Nat) : Int)) 44 dX10_logged_24 kd_284 (by omega) ln_284 (by omega) (by omega) hn.1 ?_
    refine go_iconst dX10_logged_25 (by decide) ?_
    refine gx_isub (v := (((n : Nat) : Int) - 1)) dX10_logged_26 rfl ⟨by omega, by omega⟩ ?_
    refine go_i2l dX10_logged_27 ?_
    refine go_callSI (av := [vL ((j : Nat) : Int), vL 0, vL (((n : Nat) : Int) - 1)]) (st := []) (mc2 := 0) (ms2 := 0) dX10_logged_28 cw10_87 (by decide) rfl rfl (Nat.le_of_ble_eq_true rfl) rfl rfl (ok_X10_in (fun _ _ => ?_) (fun h => absurd ⟨by omega, by omega⟩ h))
    refine go_if_eq (tgt := 60) dX10_logged_31 rfl (fun c2 => ?_) (fun c2 => ?_)
    · exact absurd c2 (by decide)
    · refine go_aload_n 0 dX10_logged_34 rfl rfl ?_
      refine go_getR (r := 284) dX10_logged_35 lk10_22.get kd_279 (by omega) rfl (pp_279_8 w) ?_
      refine go_bipush dX10_logged_38 (by decide) (by decide) ?_
      refine go_iconst dX10_logged_40 (by decide) ?_
      refine go_aload_n 0 dX10_logged_41 rfl rfl ?_
      refine go_getR (r := 284) dX10_logged_42 lk10_22.get kd_279 (by omega) rfl (pp_279_8 w) ?_
      refine go_bipush dX10_logged_45 (by decide) (by decide) ?_
      refine gx_iaload (v := ((n : Nat) : Int)) 44 dX10_logged_47 kd_284 (by omega) ln_284 (by omega) (by omega) hn.1 ?_
      refine go_iconst dX10_logged_48 (by decide) ?_
      refine gx_isub (v := ((n - 1 : Nat) : Int)) dX10_logged_49 (by omega) ⟨by omega, by omega⟩ ?_
      refine go_iload_n 1 dX10_logged_50 rfl rfl ?_
      refine gx_isub (v := ((n - 1 - j : Nat) : Int)) dX10_logged_51 (by omega) ⟨by omega, by omega⟩ ?_
      refine gx_imul (v := ((4 * (n - 1 - j) : Nat) : Int)) dX10_logged_52 (by omega) ⟨by omega, by omega⟩ ?_
      refine gx_iadd (v := ((4 * (n - 1 - j) + 45 : Nat) : Int)) dX10_logged_53 (by omega) ⟨by omega, by omega⟩ ?_
      refine go_iload_n 2 dX10_logged_54 rfl rfl ?_
      refine gx_iadd (v := (((4 * (n - 1 - j) + 45) + i : Nat) : Int)) dX10_logged_55 (by omega) ⟨by omega, by omega⟩ ?_
      refine gx_iaload (v := (M 284 ((4 * (n - 1 - j) + 45) + i))) ((4 * (n - 1 - j) + 45) + i) dX10_logged_56 kd_284 (by omega) ln_284 rfl (by omega) rfl ?_
      refine go_goto (tgt := 61) dX10_logged_57 rfl ?_
      refine go_iret dX10_logged_61 rfl rfl ⟨_, rfl, ?_⟩
      exact hQ
  · exact absurd c1 (by decide)

set_option maxHeartbeats 4000000 in
set_option maxRecDepth 100000 in
theorem ok_X10_logged_out {w n : Nat} {M : inm} {k a : Int} {Q : Int → Nat → rfm → inm → Prop} (hn : M 284 44 = (n : Int) ∧ n ≤ 20) (hk : ¬ ((0 ≤ k ∧ k < (n : Int)) ∧ 0 ≤ a ∧ a < 4)) (h0 : ¬ (0 ≤ a ∧ a < 4) → Q (-1000000002) 303 (PP w) M) (h1 : (0 ≤ a ∧ a < 4) → ¬ (0 ≤ k ∧ k < (n : Int)) → Q (-1) 303 (PP w) M) : OkI yX10_logged cX10_logged 3 1 0 0 (some .int) [vR 279, vI k, vI a] 303 (PP w) M Q := by
  refine OkI.of (by decide +kernel) (by decide +kernel) (Nat.le_of_ble_eq_true rfl) ?_
  refine go_eq (lv' := [(0, vR 279), (1, vI k), (2, vI a)]) rfl rfl rfl rfl rfl ?_
  have hn2 := hn.2
  refine go_iload_n 2 dX10_logged_0 rfl rfl ?_
  refine go_i2l dX10_logged_1 ?_
  refine go_lconst (z := 0) dX10_logged_2 (by decide) (by decide) ?_
  refine go_ldc2 dX10_logged_3 jk10_235 (by decide) ?_
  refine go_callSI (av := [vL a, vL 0, vL 3]) (st := []) (mc2 := 0) (ms2 := 0) dX10_logged_6 cw10_87 (by decide) rfl rfl (Nat.le_of_ble_eq_true rfl) rfl rfl (ok_X10_in (fun i1 i2 => ?_) (fun i3 => ?_))
  · skip
    refine go_if_ne (tgt := 15) dX10_logged_9 rfl (fun c4 => ?_) (fun c4 => ?_)
    · refine go_iload_n 1 dX10_logged_15 rfl rfl ?_
      refine go_i2l dX10_logged_16 ?_
      refine go_lconst (z := 0) dX10_logged_17 (by decide) (by decide) ?_
      refine go_aload_n 0 dX10_logged_18 rfl rfl ?_
      refine go_getR (r := 284) dX10_logged_19 lk10_22.get kd_279 (by omega) rfl (pp_279_8 w) ?_
      refine go_bipush dX10_logged_22 (by decide) (by decide) ?_
      refine gx_iaload (v := ((n : Nat) : Int)) 44 dX10_logged_24 kd_284 (by omega) ln_284 (by omega) (by omega) hn.1 ?_
      refine go_iconst dX10_logged_25 (by decide) ?_
      refine gx_isub (v := (((n : Nat) : Int) - 1)) dX10_logged_26 rfl ⟨by omega, by omega⟩ ?_
      refine go_i2l dX10_logged_27 ?_
      refine go_callSI (av := [vL k, vL 0, vL (((n : Nat) : Int) - 1)]) (st := []) (mc2 := 0) (ms2 := 0) dX10_logged_28 cw10_87 (by decide) rfl rfl (Nat.le_of_ble_eq_true rfl) rfl rfl (ok_X10_in (fun i5 i6 => ?_) (fun i7 => ?_))
      · skip
        refine go_if_eq (tgt := 60) dX10_logged_31 rfl (fun c8 => ?_) (fun c8 => ?_)
        · exact absurd c8 (by decide)
        · exfalso; omega
      · skip
        refine go_if_eq (tgt := 60) dX10_logged_31 rfl (fun c9 => ?_) (fun c9 => ?_)
        · refine go_iconst dX10_logged_60 (by decide) ?_
          refine go_iret dX10_logged_61 rfl rfl ⟨_, rfl, ?_⟩
          first | exact h0 (by omega) | exact h1 (by omega) (by omega)
        · exact absurd c9 (by decide)
    · exact absurd c4 (by decide)
  · skip
    refine go_if_ne (tgt := 15) dX10_logged_9 rfl (fun c10 => ?_) (fun c10 => ?_)
    · exact absurd c10 (by decide)
    · refine go_ldc dX10_logged_12 ik10_96 (by decide) ?_
      refine go_iret dX10_logged_14 rfl rfl ⟨_, rfl, ?_⟩
      first | exact h0 (by omega) | exact h1 (by omega) (by omega)

def rFeed (M : inm) (n : Nat) (c : Int) : inm := up2 (up2 M 290 n c) 279 18 ((n + 1 : Nat) : Int)
set_option maxHeartbeats 4000000 in
set_option maxRecDepth 100000 in
theorem ok_X10_feed {w n : Nat} {c : Int} {M : inm} {Q : Int → Nat → rfm → inm → Prop} (hn : M 279 18 = (n : Int)) (h240 : n ≤ 240) (hb : ¬ (0 ≤ c ∧ c ≤ 255) → Q (-1000000002) 303 (PP w) M) (h1 : 0 ≤ c ∧ c ≤ 255 → n < 240 → Q ((n + 1 : Nat) : Int) 303 (PP w) (rFeed M n c)) (h0 : 0 ≤ c ∧ c ≤ 255 → n = 240 → Q (-1000000004) 303 (PP w) M) : OkI yX10_feed cX10_feed 2 1 0 0 (some .int) [vR 279, vI c] 303 (PP w) M Q := by
  refine OkI.of (by decide +kernel) (by decide +kernel) (Nat.le_of_ble_eq_true rfl) ?_
  refine go_eq (lv' := [(0, vR 279), (1, vI c)]) rfl rfl rfl rfl rfl ?_
  refine go_iload_n 1 dX10_feed_0 rfl rfl ?_
  refine go_i2l dX10_feed_1 ?_
  refine go_lconst (z := 0) dX10_feed_2 (by decide) (by decide) ?_
  refine go_ldc2 dX10_feed_3 jk10_94 (by decide) ?_
  refine go_callSI (av := [vL c, vL 0, vL 255]) (st := []) (mc2 := 0) (ms2 := 0) dX10_feed_6 cw10_87 (by decide) rfl rfl (Nat.le_of_ble_eq_true rfl) rfl rfl (ok_X10_in (fun i1 i2 => ?_) (fun i3 => ?_))
  · skip
    refine go_if_ne (tgt := 15) dX10_feed_9 rfl (fun c4 => ?_) (fun c4 => ?_)
    · refine go_aload_n 0 dX10_feed_15 rfl rfl ?_
      refine gx_getI (v := ((n : Nat) : Int)) dX10_feed_16 lk10_97.get kd_279 (by omega) rfl hn ?_
      refine go_sipush dX10_feed_19 (by decide) (by decide) ?_
      refine go_icmp_ne (tgt := 28) dX10_feed_22 rfl (fun c5 => ?_) (fun c5 => ?_)
      · refine go_aload_n 0 dX10_feed_28 rfl rfl ?_
        refine go_getR (r := 290) dX10_feed_29 lk10_40.get kd_279 (by omega) rfl (pp_279_17 w) ?_
        refine go_aload_n 0 dX10_feed_32 rfl rfl ?_
        refine gx_getI (v := ((n : Nat) : Int)) dX10_feed_33 lk10_97.get kd_279 (by omega) rfl hn ?_
        refine go_iload_n 1 dX10_feed_36 rfl rfl ?_
        refine gx_iastore n dX10_feed_37 kd_290 (by omega) ln_290 rfl (by omega) ?_
        refine go_aload_n 0 dX10_feed_38 rfl rfl ?_
        refine go_dup dX10_feed_39 rfl ?_
        refine gx_getI (v := ((n : Nat) : Int)) dX10_feed_40 lk10_97.get kd_279 (by omega) rfl ((up2_ne (by omega)).trans hn) ?_
        refine go_iconst dX10_feed_43 (by decide) ?_
        refine gx_iadd (v := ((n + 1 : Nat) : Int)) dX10_feed_44 (by omega) ⟨by omega, by omega⟩ ?_
        refine go_putI dX10_feed_45 (Or.inl lk10_97) kd_279 (by omega) rfl (Or.inl rfl) ?_
        refine go_aload_n 0 dX10_feed_48 rfl rfl ?_
        refine gx_getI (v := ((n + 1 : Nat) : Int)) dX10_feed_49 lk10_97.get kd_279 (by omega) rfl up2_same ?_
        refine go_iret dX10_feed_52 rfl rfl ⟨_, rfl, ?_⟩
        first | exact hb (by omega) | exact h1 (by omega) (by omega) | exact h0 (by omega) (by omega)
      · refine go_ldc dX10_feed_25 ik10_100 (by decide) ?_
        refine go_iret dX10_feed_27 rfl rfl ⟨_, rfl, ?_⟩
        first | exact hb (by omega) | exact h1 (by omega) (by omega) | exact h0 (by omega) (by omega)
    · exact absurd c4 (by decide)
  · skip
    refine go_if_ne (tgt := 15) dX10_feed_9 rfl (fun c6 => ?_) (fun c6 => ?_)
    · exact absurd c6 (by decide)
    · refine go_ldc dX10_feed_12 ik10_96 (by decide) ?_
      refine go_iret dX10_feed_14 rfl rfl ⟨_, rfl, ?_⟩
      first | exact hb (by omega) | exact h1 (by omega) (by omega) | exact h0 (by omega) (by omega)

set_option maxHeartbeats 4000000 in
set_option maxRecDepth 100000 in
theorem ok_X10_fault {w : Nat} {M : inm} {Q : Int → Nat → rfm → inm → Prop} (hQ : Q (M 279 19) 303 (PP w) M) : OkI yX10_fault cX10_fault 1 0 0 0 (some .int) [vR 279] 303 (PP w) M Q := by
  refine OkI.of (by decide +kernel) (by decide +kernel) (Nat.le_of_ble_eq_true rfl) ?_
  refine go_eq (lv' := [(0, vR 279)]) rfl rfl rfl rfl rfl ?_
  refine go_aload_n 0 dX10_fault_0 rfl rfl ?_
  refine gx_getI (v := (M 279 19)) dX10_fault_1 lk10_43.get kd_279 (by omega) rfl rfl ?_
  refine go_iret dX10_fault_4 rfl rfl ⟨_, rfl, ?_⟩
  exact hQ

set_option maxHeartbeats 4000000 in
set_option maxRecDepth 100000 in
theorem ok_X10_capped {w : Nat} {x : Int} {M : inm} {Q : Int → Nat → rfm → inm → Prop} (hQ : Q (min 9999 x) 303 (PP w) M) : OkI yX10_capped cX10_capped 1 0 0 0 (some .int) [vI x] 303 (PP w) M Q := by
  refine OkI.of (by decide +kernel) (by decide +kernel) (Nat.le_of_ble_eq_true rfl) ?_
  refine go_eq (lv' := [(0, vI x)]) rfl rfl rfl rfl rfl ?_
  refine go_iload_n 0 dX10_capped_0 rfl rfl ?_
  refine go_sipush dX10_capped_1 (by decide) (by decide) ?_
  refine go_icmp_le (tgt := 13) dX10_capped_4 rfl (fun c1 => ?_) (fun c1 => ?_)
  · refine go_iload_n 0 dX10_capped_13 rfl rfl ?_
    refine go_iret dX10_capped_14 rfl rfl ⟨_, rfl, ?_⟩
    first | (rw [show min 9999 x = x by omega] at hQ; exact hQ) | (rw [show min 9999 x = 9999 by omega] at hQ; exact hQ)
  · refine go_sipush dX10_capped_7 (by decide) (by decide) ?_
    refine go_goto (tgt := 14) dX10_capped_10 rfl ?_
    refine go_iret dX10_capped_14 rfl rfl ⟨_, rfl, ?_⟩
    first | (rw [show min 9999 x = x by omega] at hQ; exact hQ) | (rw [show min 9999 x = 9999 by omega] at hQ; exact hQ)

set_option maxHeartbeats 4000000 in
set_option maxRecDepth 100000 in
theorem ok_X10_canPeel {w : Nat} {M : inm} {Q : Int → Nat → rfm → inm → Prop} (h1 : 0 < M 284 0 → M 284 26 = 0 → Q 1 303 (PP w) M) (h0 : ¬ (0 < M 284 0 ∧ M 284 26 = 0) → Q 0 303 (PP w) M) : OkI yX10_canPeel cX10_canPeel 1 0 0 0 (some .boolean) [vR 279] 303 (PP w) M Q := by
  refine OkI.of (by decide +kernel) (by decide +kernel) (Nat.le_of_ble_eq_true rfl) ?_
  refine go_eq (lv' := [(0, vR 279)]) rfl rfl rfl rfl rfl ?_
  refine go_aload_n 0 dX10_canPeel_0 rfl rfl ?_
  refine go_getR (r := 284) dX10_canPeel_1 lk10_22.get kd_279 (by omega) rfl (pp_279_8 w) ?_
  refine go_iconst dX10_canPeel_4 (by decide) ?_
  refine gx_iaload (v := (M 284 0)) 0 dX10_canPeel_5 kd_284 (by omega) ln_284 (by omega) (by omega) rfl ?_
  refine go_if_le (tgt := 23) dX10_canPeel_6 rfl (fun c1 => ?_) (fun c1 => ?_)
  · refine go_iconst dX10_canPeel_23 (by decide) ?_
    refine go_iret dX10_canPeel_24 rfl rfl ⟨_, rfl, ?_⟩
    first | exact h1 (by omega) (by omega) | exact h0 (by omega)
  · refine go_aload_n 0 dX10_canPeel_9 rfl rfl ?_
    refine go_getR (r := 284) dX10_canPeel_10 lk10_22.get kd_279 (by omega) rfl (pp_279_8 w) ?_
    refine go_bipush dX10_canPeel_13 (by decide) (by decide) ?_
    refine gx_iaload (v := (M 284 26)) 26 dX10_canPeel_15 kd_284 (by omega) ln_284 (by omega) (by omega) rfl ?_
    refine go_if_ne (tgt := 23) dX10_canPeel_16 rfl (fun c2 => ?_) (fun c2 => ?_)
    · refine go_iconst dX10_canPeel_23 (by decide) ?_
      refine go_iret dX10_canPeel_24 rfl rfl ⟨_, rfl, ?_⟩
      first | exact h1 (by omega) (by omega) | exact h0 (by omega)
    · refine go_iconst dX10_canPeel_19 (by decide) ?_
      refine go_goto (tgt := 24) dX10_canPeel_20 rfl ?_
      refine go_iret dX10_canPeel_24 rfl rfl ⟨_, rfl, ?_⟩
      first | exact h1 (by omega) (by omega) | exact h0 (by omega)

set_option maxHeartbeats 4000000 in
set_option maxRecDepth 100000 in
theorem ok_X10_yearsRefused {w : Nat} {a : Int} {M : inm} {Q : Int → Nat → rfm → inm → Prop} (ho : ¬ (1 ≤ a ∧ a ≤ 30) → Q (-1000000002) 303 (PP w) M) (hn : (1 ≤ a ∧ a ≤ 30) → M 279 0 = 0 → Q (-1000000003) 303 (PP w) M) (hf : (1 ≤ a ∧ a ≤ 30) → ¬ M 279 0 = 0 → 9000 < M 284 25 → Q (-1000000004) 303 (PP w) M) (h0 : (1 ≤ a ∧ a ≤ 30) → ¬ M 279 0 = 0 → ¬ 9000 < M 284 25 → Q 0 303 (PP w) M) : OkI yX10_yearsRefused cX10_yearsRefused 2 1 0 0 (some .int) [vR 279, vI a] 303 (PP w) M Q := by
  refine OkI.of (by decide +kernel) (by decide +kernel) (Nat.le_of_ble_eq_true rfl) ?_
  refine go_eq (lv' := [(0, vR 279), (1, vI a)]) rfl rfl rfl rfl rfl ?_
  refine go_iload_n 1 dX10_yearsRefused_0 rfl rfl ?_
  refine go_i2l dX10_yearsRefused_1 ?_
  refine go_lconst (z := 1) dX10_yearsRefused_2 (by decide) (by decide) ?_
  refine go_ldc2 dX10_yearsRefused_3 jk10_258 (by decide) ?_
  refine go_callSI (av := [vL a, vL 1, vL 30]) (st := []) (mc2 := 0) (ms2 := 0) dX10_yearsRefused_6 cw10_87 (by decide) rfl rfl (Nat.le_of_ble_eq_true rfl) rfl rfl (ok_X10_in (fun i1 i2 => ?_) (fun i3 => ?_))
  · skip
    refine go_if_ne (tgt := 15) dX10_yearsRefused_9 rfl (fun c4 => ?_) (fun c4 => ?_)
    · refine go_aload_n 0 dX10_yearsRefused_15 rfl rfl ?_
      refine gx_getI (v := (M 279 0)) dX10_yearsRefused_16 lk10_157.get kd_279 (by omega) rfl rfl ?_
      refine go_if_ne (tgt := 27) dX10_yearsRefused_19 rfl (fun c5 => ?_) (fun c5 => ?_)
      · refine go_aload_n 0 dX10_yearsRefused_27 rfl rfl ?_
        refine go_getR (r := 284) dX10_yearsRefused_28 lk10_22.get kd_279 (by omega) rfl (pp_279_8 w) ?_
        refine go_bipush dX10_yearsRefused_31 (by decide) (by decide) ?_
        refine gx_iaload (v := (M 284 25)) 25 dX10_yearsRefused_33 kd_284 (by omega) ln_284 (by omega) (by omega) rfl ?_
        refine go_sipush dX10_yearsRefused_34 (by decide) (by decide) ?_
        refine go_icmp_le (tgt := 45) dX10_yearsRefused_37 rfl (fun c6 => ?_) (fun c6 => ?_)
        · refine go_iconst dX10_yearsRefused_45 (by decide) ?_
          refine go_iret dX10_yearsRefused_46 rfl rfl ⟨_, rfl, ?_⟩
          first | exact ho (by omega) | exact hn (by omega) (by omega) | exact hf (by omega) (by omega) (by omega) | exact h0 (by omega) (by omega) (by omega)
        · refine go_ldc dX10_yearsRefused_40 ik10_100 (by decide) ?_
          refine go_goto (tgt := 46) dX10_yearsRefused_42 rfl ?_
          refine go_iret dX10_yearsRefused_46 rfl rfl ⟨_, rfl, ?_⟩
          first | exact ho (by omega) | exact hn (by omega) (by omega) | exact hf (by omega) (by omega) (by omega) | exact h0 (by omega) (by omega) (by omega)
      · refine go_ldc dX10_yearsRefused_22 ik10_248 (by decide) ?_
        refine go_goto (tgt := 46) dX10_yearsRefused_24 rfl ?_
        refine go_iret dX10_yearsRefused_46 rfl rfl ⟨_, rfl, ?_⟩
        first | exact ho (by omega) | exact hn (by omega) (by omega) | exact hf (by omega) (by omega) (by omega) | exact h0 (by omega) (by omega) (by omega)
    · exact absurd c4 (by decide)
  · skip
    refine go_if_ne (tgt := 15) dX10_yearsRefused_9 rfl (fun c7 => ?_) (fun c7 => ?_)
    · exact absurd c7 (by decide)
    · refine go_ldc dX10_yearsRefused_12 ik10_96 (by decide) ?_
      refine go_iret dX10_yearsRefused_14 rfl rfl ⟨_, rfl, ?_⟩
      first | exact ho (by omega) | exact hn (by omega) (by omega) | exact hf (by omega) (by omega) (by omega) | exact h0 (by omega) (by omega) (by omega)

set_option maxHeartbeats 4000000 in
set_option maxRecDepth 100000 in
theorem ok_X10_seed {w : Nat} {a : Int} {M : inm} {Q : Int → Nat → rfm → inm → Prop} (hb : a < 0 → Q (-1000000002) 303 (PP w) M) (hQ : 0 ≤ a → Q (M 279 9) 303 (PP w) (up2 M 279 9 a)) : OkI yX10_seed cX10_seed 3 0 0 0 (some .int) [vR 279, vI a] 303 (PP w) M Q := by
  refine OkI.of (by decide +kernel) (by decide +kernel) (Nat.le_of_ble_eq_true rfl) ?_
  refine go_eq (lv' := [(0, vR 279), (1, vI a)]) rfl rfl rfl rfl rfl ?_
  refine go_iload_n 1 dX10_seed_0 rfl rfl ?_
  refine go_if_ge (tgt := 7) dX10_seed_1 rfl (fun c1 => ?_) (fun c1 => ?_)
  · refine go_aload_n 0 dX10_seed_7 rfl rfl ?_
    refine gx_getI (v := (M 279 9)) dX10_seed_8 lk10_266.get kd_279 (by omega) rfl rfl ?_
    refine go_istore_n (lv' := [(2, vI (M 279 9)), (0, vR 279), (1, vI a)]) dX10_seed_11 rfl (by decide) rfl ?_
    refine go_aload_n 1 dX10_seed_12 rfl rfl ?_
    refine go_iload_n 2 dX10_seed_13 rfl rfl ?_
    refine go_putI dX10_seed_14 (Or.inl lk10_266) kd_279 (by omega) rfl (Or.inl rfl) ?_
    refine go_iload_n 0 dX10_seed_17 rfl rfl ?_
    refine go_iret dX10_seed_18 rfl rfl ⟨_, rfl, ?_⟩
    first | exact hb (by omega) | exact hQ (by omega)
  · refine go_ldc dX10_seed_4 ik10_96 (by decide) ?_
    refine go_iret dX10_seed_6 rfl rfl ⟨_, rfl, ?_⟩
    first | exact hb (by omega) | exact hQ (by omega)

set_option maxHeartbeats 4000000 in
set_option maxRecDepth 100000 in
theorem ok_X10_tear {w c d : Nat} {M : inm} {Q : Int → Nat → rfm → inm → Prop} (hc : M 279 13 = (c : Int)) (h6 : c ≤ 6) (hd : M 279 10 = (d : Int)) (h20 : d ≤ 20) (hQ : Q ((c + d : Nat) : Int) 303 (PP w) (up2 (up2 M 279 13 0) 279 10 0)) : OkI yX10_tear cX10_tear 2 0 0 0 (some .int) [vR 279] 303 (PP w) M Q := by
  refine OkI.of (by decide +kernel) (by decide +kernel) (Nat.le_of_ble_eq_true rfl) ?_
  refine go_eq (lv' := [(0, vR 279)]) rfl rfl rfl rfl rfl ?_
  refine go_aload_n 0 dX10_tear_0 rfl rfl ?_
  refine gx_getI (v := ((c : Nat) : Int)) dX10_tear_1 lk10_173.get kd_279 (by omega) rfl hc ?_
  refine go_aload_n 0 dX10_tear_4 rfl rfl ?_
  refine gx_getI (v := ((d : Nat) : Int)) dX10_tear_5 lk10_176.get kd_279 (by omega) rfl hd ?_
  refine gx_iadd (v := ((c + d : Nat) : Int)) dX10_tear_8 (by omega) ⟨by omega, by omega⟩ ?_
  refine go_istore_n (lv' := [(1, vI ((c + d : Nat) : Int)), (0, vR 279)]) dX10_tear_9 rfl (by decide) rfl ?_
  refine go_aload_n 1 dX10_tear_10 rfl rfl ?_
  refine go_iconst dX10_tear_11 (by decide) ?_
  refine go_putI dX10_tear_12 (Or.inl lk10_173) kd_279 (by omega) rfl (Or.inl rfl) ?_
  refine go_aload_n 1 dX10_tear_15 rfl rfl ?_
  refine go_iconst dX10_tear_16 (by decide) ?_
  refine go_putI dX10_tear_17 (Or.inl lk10_176) kd_279 (by omega) rfl (Or.inl rfl) ?_
  refine go_iload_n 0 dX10_tear_20 rfl rfl ?_
  refine go_iret dX10_tear_21 rfl rfl ⟨_, rfl, ?_⟩
  exact hQ

def rGuess (M : inm) (c : Nat) (x z b : Int) : inm := up2 (up2 (up2 (up2 M 287 c x) 288 c z) 289 c b) 279 13 ((c + 1 : Nat) : Int)
def rBook (M : inm) (c : Nat) (x z : Int) : inm := up2 (up2 (up2 M 285 c x) 286 c z) 279 10 ((c + 1 : Nat) : Int)
set_option maxHeartbeats 4000000 in
set_option maxRecDepth 100000 in
theorem ok_X10_guess {w c : Nat} {k a b : Int} {M : inm} {Q : Int → Nat → rfm → inm → Prop} (hb01 : b = 0 ∨ b = 1) (hc : M 279 13 = (c : Int)) (h6 : c ≤ 6) (hb : ¬ (0 ≤ k ∧ k < 8 ∧ 0 ≤ a ∧ a < 5) → Q (-1000000002) 303 (PP w) M) (h1 : (0 ≤ k ∧ k < 8 ∧ 0 ≤ a ∧ a < 5) → c < 6 → Q ((c + 1 : Nat) : Int) 303 (PP w) (rGuess M c k a b)) (h0 : (0 ≤ k ∧ k < 8 ∧ 0 ≤ a ∧ a < 5) → c = 6 → Q (-1000000004) 303 (PP w) M) : OkI yX10_guess cX10_guess 4 1 0 0 (some .int) [vR 279, vI k, vI a, vI b] 303 (PP w) M Q := by
  refine OkI.of (by decide +kernel) (by decide +kernel) (Nat.le_of_ble_eq_true rfl) ?_
  refine go_eq (lv' := [(0, vR 279), (1, vI k), (2, vI a), (3, vI b)]) rfl rfl rfl rfl rfl ?_
  refine go_iload_n 1 dX10_guess_0 rfl rfl ?_
  refine go_i2l dX10_guess_1 ?_
  refine go_lconst (z := 0) dX10_guess_2 (by decide) (by decide) ?_
  refine go_ldc2 dX10_guess_3 jk10_233 (by decide) ?_
  refine go_callSI (av := [vL k, vL 0, vL 7]) (st := []) (mc2 := 0) (ms2 := 0) dX10_guess_6 cw10_87 (by decide) rfl rfl (Nat.le_of_ble_eq_true rfl) rfl rfl (ok_X10_in (fun i1 i2 => ?_) (fun i3 => ?_))
  · skip
    refine go_if_eq (tgt := 24) dX10_guess_9 rfl (fun c4 => ?_) (fun c4 => ?_)
    · exact absurd c4 (by decide)
    · refine go_iload_n 2 dX10_guess_12 rfl rfl ?_
      refine go_i2l dX10_guess_13 ?_
      refine go_lconst (z := 0) dX10_guess_14 (by decide) (by decide) ?_
      refine go_ldc2 dX10_guess_15 jk10_289 (by decide) ?_
      refine go_callSI (av := [vL a, vL 0, vL 4]) (st := []) (mc2 := 0) (ms2 := 0) dX10_guess_18 cw10_87 (by decide) rfl rfl (Nat.le_of_ble_eq_true rfl) rfl rfl (ok_X10_in (fun i5 i6 => ?_) (fun i7 => ?_))
      · skip
        refine go_if_ne (tgt := 27) dX10_guess_21 rfl (fun c8 => ?_) (fun c8 => ?_)
        · refine go_aload_n 0 dX10_guess_27 rfl rfl ?_
          refine gx_getI (v := ((c : Nat) : Int)) dX10_guess_28 lk10_173.get kd_279 (by omega) rfl hc ?_
          refine go_bipush dX10_guess_31 (by decide) (by decide) ?_
          refine go_icmp_ne (tgt := 39) dX10_guess_33 rfl (fun c9 => ?_) (fun c9 => ?_)
          · refine go_aload_n 0 dX10_guess_39 rfl rfl ?_
            refine go_getR (r := 287) dX10_guess_40 lk10_31.get kd_279 (by omega) rfl (pp_279_14 w) ?_
            refine go_aload_n 0 dX10_guess_43 rfl rfl ?_
            refine gx_getI (v := ((c : Nat) : Int)) dX10_guess_44 lk10_173.get kd_279 (by omega) rfl hc ?_
            refine go_iload_n 1 dX10_guess_47 rfl rfl ?_
            refine gx_iastore c dX10_guess_48 kd_287 (by omega) ln_287 rfl (by omega) ?_
            refine go_aload_n 0 dX10_guess_49 rfl rfl ?_
            refine go_getR (r := 288) dX10_guess_50 lk10_34.get kd_279 (by omega) rfl (pp_279_15 w) ?_
            refine go_aload_n 0 dX10_guess_53 rfl rfl ?_
            refine gx_getI (v := ((c : Nat) : Int)) dX10_guess_54 lk10_173.get kd_279 (by omega) rfl ((up2_ne (by omega)).trans hc) ?_
            refine go_iload_n 2 dX10_guess_57 rfl rfl ?_
            refine gx_iastore c dX10_guess_58 kd_288 (by omega) ln_288 rfl (by omega) ?_
            refine go_aload_n 0 dX10_guess_59 rfl rfl ?_
            refine go_getR (r := 289) dX10_guess_60 lk10_37.get kd_279 (by omega) rfl (pp_279_16 w) ?_
            refine go_aload_n 0 dX10_guess_63 rfl rfl ?_
            refine gx_getI (v := ((c : Nat) : Int)) dX10_guess_64 lk10_173.get kd_279 (by omega) rfl ((up2_ne (by omega)).trans ((up2_ne (by omega)).trans hc)) ?_
            refine go_iload_n 3 dX10_guess_67 rfl rfl ?_
            refine go_if_eq (tgt := 75) dX10_guess_68 rfl (fun c10 => ?_) (fun c10 => ?_)
            · refine go_iconst dX10_guess_75 (by decide) ?_
              refine gx_iastore c dX10_guess_76 kd_289 (by omega) ln_289 rfl (by omega) ?_
              refine go_aload_n 0 dX10_guess_77 rfl rfl ?_
              refine go_dup dX10_guess_78 rfl ?_
              refine gx_getI (v := ((c : Nat) : Int)) dX10_guess_79 lk10_173.get kd_279 (by omega) rfl ((up2_ne (by omega)).trans ((up2_ne (by omega)).trans ((up2_ne (by omega)).trans hc))) ?_
              refine go_iconst dX10_guess_82 (by decide) ?_
              refine gx_iadd (v := ((c + 1 : Nat) : Int)) dX10_guess_83 (by omega) ⟨by omega, by omega⟩ ?_
              refine go_putI dX10_guess_84 (Or.inl lk10_173) kd_279 (by omega) rfl (Or.inl rfl) ?_
              refine go_aload_n 0 dX10_guess_87 rfl rfl ?_
              refine gx_getI (v := ((c + 1 : Nat) : Int)) dX10_guess_88 lk10_173.get kd_279 (by omega) rfl up2_same ?_
              refine go_iret dX10_guess_91 rfl rfl ⟨_, rfl, ?_⟩
              first | exact hb (by omega) | (have q := h1 (by omega) (by omega); first | exact q | (rw [show b = 1 by omega] at q; exact q) | (rw [show b = 0 by omega] at q; exact q)) | exact h0 (by omega) (by omega)
            · refine go_iconst dX10_guess_71 (by decide) ?_
              refine go_goto (tgt := 76) dX10_guess_72 rfl ?_
              refine gx_iastore c dX10_guess_76 kd_289 (by omega) ln_289 rfl (by omega) ?_
              refine go_aload_n 0 dX10_guess_77 rfl rfl ?_
              refine go_dup dX10_guess_78 rfl ?_
              refine gx_getI (v := ((c : Nat) : Int)) dX10_guess_79 lk10_173.get kd_279 (by omega) rfl ((up2_ne (by omega)).trans ((up2_ne (by omega)).trans ((up2_ne (by omega)).trans hc))) ?_
              refine go_iconst dX10_guess_82 (by decide) ?_
              refine gx_iadd (v := ((c + 1 : Nat) : Int)) dX10_guess_83 (by omega) ⟨by omega, by omega⟩ ?_
              refine go_putI dX10_guess_84 (Or.inl lk10_173) kd_279 (by omega) rfl (Or.inl rfl) ?_
              refine go_aload_n 0 dX10_guess_87 rfl rfl ?_
              refine gx_getI (v := ((c + 1 : Nat) : Int)) dX10_guess_88 lk10_173.get kd_279 (by omega) rfl up2_same ?_
              refine go_iret dX10_guess_91 rfl rfl ⟨_, rfl, ?_⟩
              first | exact hb (by omega) | (have q := h1 (by omega) (by omega); first | exact q | (rw [show b = 1 by omega] at q; exact q) | (rw [show b = 0 by omega] at q; exact q)) | exact h0 (by omega) (by omega)
          · refine go_ldc dX10_guess_36 ik10_100 (by decide) ?_
            refine go_iret dX10_guess_38 rfl rfl ⟨_, rfl, ?_⟩
            first | exact hb (by omega) | (have q := h1 (by omega) (by omega); first | exact q | (rw [show b = 1 by omega] at q; exact q) | (rw [show b = 0 by omega] at q; exact q)) | exact h0 (by omega) (by omega)
        · exact absurd c8 (by decide)
      · skip
        refine go_if_ne (tgt := 27) dX10_guess_21 rfl (fun c11 => ?_) (fun c11 => ?_)
        · exact absurd c11 (by decide)
        · refine go_ldc dX10_guess_24 ik10_96 (by decide) ?_
          refine go_iret dX10_guess_26 rfl rfl ⟨_, rfl, ?_⟩
          first | exact hb (by omega) | (have q := h1 (by omega) (by omega); first | exact q | (rw [show b = 1 by omega] at q; exact q) | (rw [show b = 0 by omega] at q; exact q)) | exact h0 (by omega) (by omega)
  · skip
    refine go_if_eq (tgt := 24) dX10_guess_9 rfl (fun c12 => ?_) (fun c12 => ?_)
    · refine go_ldc dX10_guess_24 ik10_96 (by decide) ?_
      refine go_iret dX10_guess_26 rfl rfl ⟨_, rfl, ?_⟩
      first | exact hb (by omega) | (have q := h1 (by omega) (by omega); first | exact q | (rw [show b = 1 by omega] at q; exact q) | (rw [show b = 0 by omega] at q; exact q)) | exact h0 (by omega) (by omega)
    · exact absurd c12 (by decide)

set_option maxHeartbeats 4000000 in
set_option maxRecDepth 100000 in
theorem ok_X10_write_in {w E c j : Nat} {k a : Int} {M : inm} {Q : Int → Nat → rfm → inm → Prop} (hE : M 279 2 = (E : Int) ∧ E ≤ 5) (hj : j < E) (hc : M 279 10 = (c : Int)) (h20 : c ≤ 20) (hb : ¬ (0 ≤ a ∧ a ≤ 9999) → Q (-1000000002) 303 (PP w) M) (h1 : (0 ≤ a ∧ a ≤ 9999) → c < 20 → Q ((c + 1 : Nat) : Int) 303 (PP w) (rBook M c (j : Int) a)) (h0 : (0 ≤ a ∧ a ≤ 9999) → c = 20 → Q (-1000000004) 303 (PP w) M) : OkI yX10_write cX10_write 3 2 0 0 (some .int) [vR 279, vI ((j : Nat) : Int), vI a] 303 (PP w) M Q := by
  refine OkI.of (by decide +kernel) (by decide +kernel) (Nat.le_of_ble_eq_true rfl) ?_
  refine go_eq (lv' := [(0, vR 279), (1, vI ((j : Nat) : Int)), (2, vI a)]) rfl rfl rfl rfl rfl ?_
  have hE5 := hE.2
  refine go_aload_n 0 dX10_write_0 rfl rfl ?_
  refine go_iload_n 1 dX10_write_1 rfl rfl ?_
  refine go_callVI (av := [vI ((j : Nat) : Int)]) (st := []) (a := 279) (mc2 := 0) (ms2 := 0) dX10_write_2 cw10_230 (by decide) rfl rfl (Nat.le_of_ble_eq_true rfl) rfl rfl kd_279 ⟨_, _, rfl⟩ (by decide) (by omega) (ok_X10_isExecutor hE (fun _ _ => ?_) (fun h => absurd ⟨by omega, by omega⟩ h))
  refine go_if_ne (tgt := 11) dX10_write_5 rfl (fun c1 => ?_) (fun c1 => ?_)
  · refine go_iload_n 2 dX10_write_11 rfl rfl ?_
    refine go_i2l dX10_write_12 ?_
    refine go_lconst (z := 0) dX10_write_13 (by decide) (by decide) ?_
    refine go_ldc2 dX10_write_14 jk10_313 (by decide) ?_
    refine go_callSI (av := [vL a, vL 0, vL 9999]) (st := []) (mc2 := 0) (ms2 := 0) dX10_write_17 cw10_87 (by decide) rfl rfl (Nat.le_of_ble_eq_true rfl) rfl rfl (ok_X10_in (fun i2 i3 => ?_) (fun i4 => ?_))
    · skip
      refine go_if_ne (tgt := 26) dX10_write_20 rfl (fun c5 => ?_) (fun c5 => ?_)
      · refine go_aload_n 0 dX10_write_26 rfl rfl ?_
        refine gx_getI (v := ((c : Nat) : Int)) dX10_write_27 lk10_176.get kd_279 (by omega) rfl hc ?_
        refine go_bipush dX10_write_30 (by decide) (by decide) ?_
        refine go_icmp_ne (tgt := 38) dX10_write_32 rfl (fun c6 => ?_) (fun c6 => ?_)
        · refine go_aload_n 0 dX10_write_38 rfl rfl ?_
          refine go_getR (r := 285) dX10_write_39 lk10_25.get kd_279 (by omega) rfl (pp_279_11 w) ?_
          refine go_aload_n 0 dX10_write_42 rfl rfl ?_
          refine gx_getI (v := ((c : Nat) : Int)) dX10_write_43 lk10_176.get kd_279 (by omega) rfl hc ?_
          refine go_iload_n 1 dX10_write_46 rfl rfl ?_
          refine gx_iastore c dX10_write_47 kd_285 (by omega) ln_285 rfl (by omega) ?_
          refine go_aload_n 0 dX10_write_48 rfl rfl ?_
          refine go_getR (r := 286) dX10_write_49 lk10_28.get kd_279 (by omega) rfl (pp_279_12 w) ?_
          refine go_aload_n 0 dX10_write_52 rfl rfl ?_
          refine gx_getI (v := ((c : Nat) : Int)) dX10_write_53 lk10_176.get kd_279 (by omega) rfl ((up2_ne (by omega)).trans hc) ?_
          refine go_iload_n 2 dX10_write_56 rfl rfl ?_
          refine gx_iastore c dX10_write_57 kd_286 (by omega) ln_286 rfl (by omega) ?_
          refine go_aload_n 0 dX10_write_58 rfl rfl ?_
          refine go_dup dX10_write_59 rfl ?_
          refine gx_getI (v := ((c : Nat) : Int)) dX10_write_60 lk10_176.get kd_279 (by omega) rfl ((up2_ne (by omega)).trans ((up2_ne (by omega)).trans hc)) ?_
          refine go_iconst dX10_write_63 (by decide) ?_
          refine gx_iadd (v := ((c + 1 : Nat) : Int)) dX10_write_64 (by omega) ⟨by omega, by omega⟩ ?_
          refine go_putI dX10_write_65 (Or.inl lk10_176) kd_279 (by omega) rfl (Or.inl rfl) ?_
          refine go_aload_n 0 dX10_write_68 rfl rfl ?_
          refine gx_getI (v := ((c + 1 : Nat) : Int)) dX10_write_69 lk10_176.get kd_279 (by omega) rfl up2_same ?_
          refine go_iret dX10_write_72 rfl rfl ⟨_, rfl, ?_⟩
          first | exact hb (by omega) | exact h1 (by omega) (by omega) | exact h0 (by omega) (by omega)
        · refine go_ldc dX10_write_35 ik10_100 (by decide) ?_
          refine go_iret dX10_write_37 rfl rfl ⟨_, rfl, ?_⟩
          first | exact hb (by omega) | exact h1 (by omega) (by omega) | exact h0 (by omega) (by omega)
      · exact absurd c5 (by decide)
    · skip
      refine go_if_ne (tgt := 26) dX10_write_20 rfl (fun c7 => ?_) (fun c7 => ?_)
      · exact absurd c7 (by decide)
      · refine go_ldc dX10_write_23 ik10_96 (by decide) ?_
        refine go_iret dX10_write_25 rfl rfl ⟨_, rfl, ?_⟩
        first | exact hb (by omega) | exact h1 (by omega) (by omega) | exact h0 (by omega) (by omega)
  · exact absurd c1 (by decide)

set_option maxHeartbeats 4000000 in
set_option maxRecDepth 100000 in
theorem ok_X10_write_out {w E : Nat} {k a : Int} {M : inm} {Q : Int → Nat → rfm → inm → Prop} (hE : M 279 2 = (E : Int) ∧ E ≤ 5) (hk : ¬ (0 ≤ k ∧ k < (E : Int))) (hQ : Q (-1000000001) 303 (PP w) M) : OkI yX10_write cX10_write 3 2 0 0 (some .int) [vR 279, vI k, vI a] 303 (PP w) M Q := by
  refine OkI.of (by decide +kernel) (by decide +kernel) (Nat.le_of_ble_eq_true rfl) ?_
  refine go_eq (lv' := [(0, vR 279), (1, vI k), (2, vI a)]) rfl rfl rfl rfl rfl ?_
  refine go_aload_n 0 dX10_write_0 rfl rfl ?_
  refine go_iload_n 1 dX10_write_1 rfl rfl ?_
  refine go_callVI (av := [vI k]) (st := []) (a := 279) (mc2 := 0) (ms2 := 0) dX10_write_2 cw10_230 (by decide) rfl rfl (Nat.le_of_ble_eq_true rfl) rfl rfl kd_279 ⟨_, _, rfl⟩ (by decide) (by omega) (ok_X10_isExecutor hE (fun q1 q2 => absurd ⟨q1, q2⟩ hk) (fun _ => ?_))
  refine go_if_ne (tgt := 11) dX10_write_5 rfl (fun c1 => ?_) (fun c1 => ?_)
  · exact absurd c1 (by decide)
  · refine go_ldc dX10_write_8 ik10_223 (by decide) ?_
    refine go_iret dX10_write_10 rfl rfl ⟨_, rfl, ?_⟩
    exact hQ

set_option maxHeartbeats 4000000 in
set_option maxRecDepth 100000 in
theorem ok_X10_nextKind {w T L : Nat} {lt : Nat → Nat} {M : inm} {a : Int} {Q : Int → Nat → rfm → inm → Prop} (hT : Tys10 M T lt) (hL : Lay10 M L) (hb : ¬ (0 ≤ a ∧ a < 5) → Q (-1000000002) 303 (PP w) M) (hQ : 0 ≤ a ∧ a < 5 → Q ((cntTo (nextP lt (fun t k => M 283 (8 * t + k)) (fun j => M 284 (j + 1)) L a) T : Nat) : Int) 303 (PP w) M) : OkI yX10_nextKind cX10_nextKind 2 2 0 0 (some .int) [vR 279, vI a] 303 (PP w) M Q := by
  refine OkI.of (by decide +kernel) (by decide +kernel) (Nat.le_of_ble_eq_true rfl) ?_
  refine go_eq (lv' := [(0, vR 279), (1, vI a)]) rfl rfl rfl rfl rfl ?_
  refine go_iload_n 1 dX10_nextKind_0 rfl rfl ?_
  refine go_i2l dX10_nextKind_1 ?_
  refine go_lconst (z := 0) dX10_nextKind_2 (by decide) (by decide) ?_
  refine go_ldc2 dX10_nextKind_3 jk10_289 (by decide) ?_
  refine go_callSI (av := [vL a, vL 0, vL 4]) (st := []) (mc2 := 0) (ms2 := 0) dX10_nextKind_6 cw10_87 (by decide) rfl rfl (Nat.le_of_ble_eq_true rfl) rfl rfl (ok_X10_in (fun i1 i2 => ?_) (fun i3 => ?_))
  · skip
    refine go_if_eq (tgt := 20) dX10_nextKind_9 rfl (fun c4 => ?_) (fun c4 => ?_)
    · exact absurd c4 (by decide)
    · refine go_aload_n 0 dX10_nextKind_12 rfl rfl ?_
      refine go_iload_n 1 dX10_nextKind_13 rfl rfl ?_
      refine go_callVI (av := [vI a]) (st := []) (a := 279) (mc2 := 0) (ms2 := 0) dX10_nextKind_14 cw10_194 (by decide) rfl rfl (Nat.le_of_ble_eq_true rfl) rfl rfl kd_279 ⟨_, _, rfl⟩ (by decide) (by omega) (ok_X10_nextOf hT hL (by omega) ?_)
      refine go_goto (tgt := 22) dX10_nextKind_17 rfl ?_
      refine go_iret dX10_nextKind_22 rfl rfl ⟨_, rfl, ?_⟩
      first | exact hb (by omega) | exact hQ (by omega)
  · skip
    refine go_if_eq (tgt := 20) dX10_nextKind_9 rfl (fun c5 => ?_) (fun c5 => ?_)
    · refine go_ldc dX10_nextKind_20 ik10_96 (by decide) ?_
      refine go_iret dX10_nextKind_22 rfl rfl ⟨_, rfl, ?_⟩
      first | exact hb (by omega) | exact hQ (by omega)
    · exact absurd c5 (by decide)

