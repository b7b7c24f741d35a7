/-! ===== the reference: its deeds ===== -/
def rTake1 (M : inm) (j : Nat) : inm := (up2 (up2 (up2 M 284 (j + 29) (min 9999 ((M 284 (j + 29)) + (worth (M 284 1) (M 284 13))))) 284 (j + 34) (min 9999 (((M 284 (j + 34)) + (sting (M 284 1) (M 284 13))) + (M 280 j)))) 284 (j + 39) ((M 284 (j + 39)) + 1))
def rTake2 (M : inm) (j : Nat) : inm := if M 284 1 = 4 ∧ 0 ≤ M 284 28 then up2 (rTake1 M j) 284 (29 + M 284 28).toNat (min 9999 (rTake1 M j 284 (29 + M 284 28).toNat + 5)) else rTake1 M j
def rTk (B : inm) (n L j : Nat) (x z : Int) : inm := up2 (rEnter (up2 B 284 28 (j : Int)) n (j : Int) x z) 284 0 ((L - 1 : Nat) : Int)
def rSh (B : inm) (l : Nat) : inm := up2 (ovo (ovo B 284 1 12 (fun i => if i < l then B 284 (i + 2) else 0)) 284 13 12 (fun i => if i < l then B 284 (i + 14) else 0)) 284 27 (if l = 0 then B 279 1 else B 284 27)
def rTake (M : inm) (j n L : Nat) : inm := rSh (rTk (rTake2 M j) n L j (M 284 1) (M 284 13)) (L - 1)
/-- numbers of the reference's onion within bounds -/
def RB (M : inm) (L n U : Nat) : Prop := Lay10 M L ∧ (M 284 44 = (n : Int) ∧ n ≤ 20) ∧ (∀ e, e < 5 → 0 ≤ M 284 (e + 29) ∧ M 284 (e + 29) ≤ 9999) ∧ (∀ e, e < 5 → 0 ≤ M 284 (e + 34) ∧ M 284 (e + 34) ≤ 9999) ∧ (∀ e, e < 5 → 0 ≤ M 284 (e + 39) ∧ M 284 (e + 39) ≤ U) ∧ (0 ≤ M 284 25 ∧ M 284 25 ≤ U) ∧ (-1 ≤ M 284 28 ∧ M 284 28 ≤ 4) ∧ (M 284 26 = 0 ∨ M 284 26 = 1) ∧ U ≤ 999999
theorem RB.of {M M' : inm} {L n U : Nat} (h : ∀ j, M' 284 j = M 284 j) (hb : RB M L n U) : RB M' L n U := by
  unfold RB Lay10 at hb ⊢
  simp only [h]
  exact hb
theorem rRem_out {M : inm} {u y j : Nat} (h : (y ≠ 279 ∨ j ≠ 33) ∧ y ≠ 297) : rRem M u y j = M y j := by
  unfold rRem
  split
  · rw [up2_ne (by omega), cp2_ne (by omega), up2_ne (by omega), cp2_ne (by omega)]
  · rw [up2_ne (by omega), cp2_ne (by omega)]
theorem rT1_in {M : inm} {j i : Nat} (hj : j < 5) (hi : 29 ≤ i ∧ i < 34) (hg : ∀ e, e < 5 → 0 ≤ M 284 (e + 29) ∧ M 284 (e + 29) ≤ 9999) (hw : 0 ≤ worth (M 284 1) (M 284 13)) : 0 ≤ rTake1 M j 284 i ∧ rTake1 M j 284 i ≤ 9999 := by
  unfold rTake1
  rw [up2_ne (by omega), up2_ne (by omega)]
  have h1 := hg j hj
  by_cases h : i = j + 29
  · subst h
    rw [up2_same]
    omega
  · rw [up2_ne (by omega)]
    have h2 := hg (i - 29) (by omega)
    rw [show i - 29 + 29 = i by omega] at h2
    exact h2
set_option maxHeartbeats 4000000 in
set_option maxRecDepth 100000 in
theorem lp_X10_peels {w j l : Nat} {x z v ah : Int} {B : inm} {Q : Int → Nat → rfm → inm → Prop} (hB : B 284 0 = (l : Int)) (hl : l ≤ 11) (hQ : Q v 303 (PP w) (rSh B l)) : ∀ (d k : Nat), 12 < k + d → k ≤ 12 → Go S0 yX10_peels cX10_peels 7 2 0 0 (some .int) 165 [(6, vI ((k : Nat) : Int)), (0, vR 279), (1, vI ((j : Nat) : Int)), (2, vI x), (3, vI z), (4, vI v), (5, vI ah)] [] 303 (PP w) (ovo (ovo B 284 1 k (fun i => if i < l then B 284 (i + 2) else 0)) 284 13 k (fun i => if i < l then B 284 (i + 14) else 0)) (fun v n P M => ∃ z, v = some (vI z) ∧ Q z n P M) := by
  intro d
  induction d with
  | zero => intro k h1 h2; exfalso; omega
  | succ d ih =>
    intro k h1 h2
    refine go_iload 0 dX10_peels_165 rfl ?_
    refine go_bipush dX10_peels_167 (by decide) (by decide) ?_
    refine go_icmp_ge (tgt := 250) dX10_peels_169 rfl (fun c1 => ?_) (fun c1 => ?_)
    · have hk : k = 12 := by omega
      subst hk
      refine go_lv [1, 2, 3, 4, 5, 6] rfl ?_
      refine go_aload_n 0 dX10_peels_250 rfl rfl ?_
      refine go_getR (r := 284) dX10_peels_251 lk10_22.get kd_279 (by omega) rfl (pp_279_8 w) ?_
      refine go_bipush dX10_peels_254 (by decide) (by decide) ?_
      refine go_aload_n 0 dX10_peels_256 rfl rfl ?_
      refine go_getR (r := 284) dX10_peels_257 lk10_22.get kd_279 (by omega) rfl (pp_279_8 w) ?_
      refine go_iconst dX10_peels_260 (by decide) ?_
      refine gx_iaload (v := ((l : Nat) : Int)) 0 dX10_peels_261 kd_284 (by omega) ln_284 (by omega) (by omega) ((((ovo_out (by omega)).trans (ovo_out (by omega))).trans hB)) ?_
      refine go_if_ne (tgt := 272) dX10_peels_262 rfl (fun c102 => ?_) (fun c102 => ?_)
      · refine go_aload_n 0 dX10_peels_272 rfl rfl ?_
        refine go_getR (r := 284) dX10_peels_273 lk10_22.get kd_279 (by omega) rfl (pp_279_8 w) ?_
        refine go_bipush dX10_peels_276 (by decide) (by decide) ?_
        refine gx_iaload (v := (B 284 27)) 27 dX10_peels_278 kd_284 (by omega) ln_284 (by omega) (by omega) (((ovo_out (by omega)).trans (ovo_out (by omega)))) ?_
        refine gx_iastore 27 dX10_peels_279 kd_284 (by omega) ln_284 (by omega) (by omega) ?_
        refine go_iload 4 dX10_peels_280 rfl ?_
        refine go_iret dX10_peels_282 rfl rfl ⟨_, rfl, ?_⟩
        unfold rSh at hQ
        first | (rw [if_pos (by omega)] at hQ; exact hQ) | (rw [if_neg (by omega)] at hQ; exact hQ)
      · refine go_aload_n 0 dX10_peels_265 rfl rfl ?_
        refine gx_getI (v := (B 279 1)) dX10_peels_266 lk10_161.get kd_279 (by omega) rfl (((ovo_out (by omega)).trans (ovo_out (by omega)))) ?_
        refine go_goto (tgt := 279) dX10_peels_269 rfl ?_
        refine gx_iastore 27 dX10_peels_279 kd_284 (by omega) ln_284 (by omega) (by omega) ?_
        refine go_iload 4 dX10_peels_280 rfl ?_
        refine go_iret dX10_peels_282 rfl rfl ⟨_, rfl, ?_⟩
        unfold rSh at hQ
        first | (rw [if_pos (by omega)] at hQ; exact hQ) | (rw [if_neg (by omega)] at hQ; exact hQ)
    · refine go_aload_n 1 dX10_peels_172 rfl rfl ?_
      refine go_getR (r := 284) dX10_peels_173 lk10_22.get kd_279 (by omega) rfl (pp_279_8 w) ?_
      refine go_iconst dX10_peels_176 (by decide) ?_
      refine go_iload 0 dX10_peels_177 rfl ?_
      refine gx_iadd (v := ((k + 1 : Nat) : Int)) dX10_peels_179 (by omega) ⟨by omega, by omega⟩ ?_
      refine go_iload 0 dX10_peels_180 rfl ?_
      refine go_aload_n 1 dX10_peels_182 rfl rfl ?_
      refine go_getR (r := 284) dX10_peels_183 lk10_22.get kd_279 (by omega) rfl (pp_279_8 w) ?_
      refine go_iconst dX10_peels_186 (by decide) ?_
      refine gx_iaload (v := ((l : Nat) : Int)) 0 dX10_peels_187 kd_284 (by omega) ln_284 (by omega) (by omega) ((((ovo_out (by omega)).trans (ovo_out (by omega))).trans hB)) ?_
      refine go_icmp_ge (tgt := 205) dX10_peels_188 rfl (fun c2 => ?_) (fun c2 => ?_)
      · refine go_iconst dX10_peels_205 (by decide) ?_
        refine gx_iastore (k + 1) dX10_peels_206 kd_284 (by omega) ln_284 rfl (by omega) ?_
        refine go_aload_n 1 dX10_peels_207 rfl rfl ?_
        refine go_getR (r := 284) dX10_peels_208 lk10_22.get kd_279 (by omega) rfl (pp_279_8 w) ?_
        refine go_bipush dX10_peels_211 (by decide) (by decide) ?_
        refine go_iload 0 dX10_peels_213 rfl ?_
        refine gx_iadd (v := ((k + 13 : Nat) : Int)) dX10_peels_215 (by omega) ⟨by omega, by omega⟩ ?_
        refine go_iload 0 dX10_peels_216 rfl ?_
        refine go_aload_n 1 dX10_peels_218 rfl rfl ?_
        refine go_getR (r := 284) dX10_peels_219 lk10_22.get kd_279 (by omega) rfl (pp_279_8 w) ?_
        refine go_iconst dX10_peels_222 (by decide) ?_
        refine gx_iaload (v := ((l : Nat) : Int)) 0 dX10_peels_223 kd_284 (by omega) ln_284 (by omega) (by omega) ((up2_ne (by omega)).trans ((((ovo_out (by omega)).trans (ovo_out (by omega))).trans hB))) ?_
        refine go_icmp_ge (tgt := 242) dX10_peels_224 rfl (fun c3 => ?_) (fun c3 => ?_)
        · refine go_iconst dX10_peels_242 (by decide) ?_
          refine gx_iastore (k + 13) dX10_peels_243 kd_284 (by omega) ln_284 rfl (by omega) ?_
          refine gx_iinc (v := ((k + 1 : Nat) : Int)) (lv' := [(6, vI ((k + 1 : Nat) : Int)), (0, vR 279), (1, vI ((j : Nat) : Int)), (2, vI x), (3, vI z), (4, vI v), (5, vI ah)]) 0 dX10_peels_244 rfl (by omega) ⟨by omega, by omega⟩ (by decide) rfl ?_
          refine go_goto (tgt := 165) dX10_peels_247 rfl ?_
          have e4 : (up2 (up2 (ovo (ovo B 284 1 k (fun i => if i < l then B 284 (i + 2) else 0)) 284 13 k (fun i => if i < l then B 284 (i + 14) else 0)) 284 (k + 1) 0) 284 (k + 13) 0) = (ovo (ovo B 284 1 (k + 1) (fun i => if i < l then B 284 (i + 2) else 0)) 284 13 (k + 1) (fun i => if i < l then B 284 (i + 14) else 0)) := by exact ovo2_s (by omega) (by first | exact (if_pos (by omega)).symm | exact (if_neg (by omega)).symm) (by first | exact (if_pos (by omega)).symm | exact (if_neg (by omega)).symm)
          rw [e4]
          exact ih (k + 1) (by omega) (by omega)
        · refine go_aload_n 1 dX10_peels_227 rfl rfl ?_
          refine go_getR (r := 284) dX10_peels_228 lk10_22.get kd_279 (by omega) rfl (pp_279_8 w) ?_
          refine go_bipush dX10_peels_231 (by decide) (by decide) ?_
          refine go_iload 0 dX10_peels_233 rfl ?_
          refine gx_iadd (v := ((k + 13 : Nat) : Int)) dX10_peels_235 (by omega) ⟨by omega, by omega⟩ ?_
          refine go_iconst dX10_peels_236 (by decide) ?_
          refine gx_iadd (v := ((k + 14 : Nat) : Int)) dX10_peels_237 (by omega) ⟨by omega, by omega⟩ ?_
          refine gx_iaload (v := (B 284 (k + 14))) (k + 14) dX10_peels_238 kd_284 (by omega) ln_284 rfl (by omega) ((up2_ne (by omega)).trans (((ovo_out (by omega)).trans (ovo_out (by omega))))) ?_
          refine go_goto (tgt := 243) dX10_peels_239 rfl ?_
          refine gx_iastore (k + 13) dX10_peels_243 kd_284 (by omega) ln_284 rfl (by omega) ?_
          refine gx_iinc (v := ((k + 1 : Nat) : Int)) (lv' := [(6, vI ((k + 1 : Nat) : Int)), (0, vR 279), (1, vI ((j : Nat) : Int)), (2, vI x), (3, vI z), (4, vI v), (5, vI ah)]) 0 dX10_peels_244 rfl (by omega) ⟨by omega, by omega⟩ (by decide) rfl ?_
          refine go_goto (tgt := 165) dX10_peels_247 rfl ?_
          have e5 : (up2 (up2 (ovo (ovo B 284 1 k (fun i => if i < l then B 284 (i + 2) else 0)) 284 13 k (fun i => if i < l then B 284 (i + 14) else 0)) 284 (k + 1) 0) 284 (k + 13) (B 284 (k + 14))) = (ovo (ovo B 284 1 (k + 1) (fun i => if i < l then B 284 (i + 2) else 0)) 284 13 (k + 1) (fun i => if i < l then B 284 (i + 14) else 0)) := by exact ovo2_s (by omega) (by first | exact (if_pos (by omega)).symm | exact (if_neg (by omega)).symm) (by first | exact (if_pos (by omega)).symm | exact (if_neg (by omega)).symm)
          rw [e5]
          exact ih (k + 1) (by omega) (by omega)
      · refine go_aload_n 1 dX10_peels_191 rfl rfl ?_
        refine go_getR (r := 284) dX10_peels_192 lk10_22.get kd_279 (by omega) rfl (pp_279_8 w) ?_
        refine go_iconst dX10_peels_195 (by decide) ?_
        refine go_iload 0 dX10_peels_196 rfl ?_
        refine gx_iadd (v := ((k + 1 : Nat) : Int)) dX10_peels_198 (by omega) ⟨by omega, by omega⟩ ?_
        refine go_iconst dX10_peels_199 (by decide) ?_
        refine gx_iadd (v := ((k + 2 : Nat) : Int)) dX10_peels_200 (by omega) ⟨by omega, by omega⟩ ?_
        refine gx_iaload (v := (B 284 (k + 2))) (k + 2) dX10_peels_201 kd_284 (by omega) ln_284 rfl (by omega) (((ovo_out (by omega)).trans (ovo_out (by omega)))) ?_
        refine go_goto (tgt := 206) dX10_peels_202 rfl ?_
        refine gx_iastore (k + 1) dX10_peels_206 kd_284 (by omega) ln_284 rfl (by omega) ?_
        refine go_aload_n 1 dX10_peels_207 rfl rfl ?_
        refine go_getR (r := 284) dX10_peels_208 lk10_22.get kd_279 (by omega) rfl (pp_279_8 w) ?_
        refine go_bipush dX10_peels_211 (by decide) (by decide) ?_
        refine go_iload 0 dX10_peels_213 rfl ?_
        refine gx_iadd (v := ((k + 13 : Nat) : Int)) dX10_peels_215 (by omega) ⟨by omega, by omega⟩ ?_
        refine go_iload 0 dX10_peels_216 rfl ?_
        refine go_aload_n 1 dX10_peels_218 rfl rfl ?_
        refine go_getR (r := 284) dX10_peels_219 lk10_22.get kd_279 (by omega) rfl (pp_279_8 w) ?_
        refine go_iconst dX10_peels_222 (by decide) ?_
        refine gx_iaload (v := ((l : Nat) : Int)) 0 dX10_peels_223 kd_284 (by omega) ln_284 (by omega) (by omega) ((up2_ne (by omega)).trans ((((ovo_out (by omega)).trans (ovo_out (by omega))).trans hB))) ?_
        refine go_icmp_ge (tgt := 242) dX10_peels_224 rfl (fun c6 => ?_) (fun c6 => ?_)
        · refine go_iconst dX10_peels_242 (by decide) ?_
          refine gx_iastore (k + 13) dX10_peels_243 kd_284 (by omega) ln_284 rfl (by omega) ?_
          refine gx_iinc (v := ((k + 1 : Nat) : Int)) (lv' := [(6, vI ((k + 1 : Nat) : Int)), (0, vR 279), (1, vI ((j : Nat) : Int)), (2, vI x), (3, vI z), (4, vI v), (5, vI ah)]) 0 dX10_peels_244 rfl (by omega) ⟨by omega, by omega⟩ (by decide) rfl ?_
          refine go_goto (tgt := 165) dX10_peels_247 rfl ?_
          have e7 : (up2 (up2 (ovo (ovo B 284 1 k (fun i => if i < l then B 284 (i + 2) else 0)) 284 13 k (fun i => if i < l then B 284 (i + 14) else 0)) 284 (k + 1) (B 284 (k + 2))) 284 (k + 13) 0) = (ovo (ovo B 284 1 (k + 1) (fun i => if i < l then B 284 (i + 2) else 0)) 284 13 (k + 1) (fun i => if i < l then B 284 (i + 14) else 0)) := by exact ovo2_s (by omega) (by first | exact (if_pos (by omega)).symm | exact (if_neg (by omega)).symm) (by first | exact (if_pos (by omega)).symm | exact (if_neg (by omega)).symm)
          rw [e7]
          exact ih (k + 1) (by omega) (by omega)
        · refine go_aload_n 1 dX10_peels_227 rfl rfl ?_
          refine go_getR (r := 284) dX10_peels_228 lk10_22.get kd_279 (by omega) rfl (pp_279_8 w) ?_
          refine go_bipush dX10_peels_231 (by decide) (by decide) ?_
          refine go_iload 0 dX10_peels_233 rfl ?_
          refine gx_iadd (v := ((k + 13 : Nat) : Int)) dX10_peels_235 (by omega) ⟨by omega, by omega⟩ ?_
          refine go_iconst dX10_peels_236 (by decide) ?_
          refine gx_iadd (v := ((k + 14 : Nat) : Int)) dX10_peels_237 (by omega) ⟨by omega, by omega⟩ ?_
          refine gx_iaload (v := (B 284 (k + 14))) (k + 14) dX10_peels_238 kd_284 (by omega) ln_284 rfl (by omega) ((up2_ne (by omega)).trans (((ovo_out (by omega)).trans (ovo_out (by omega))))) ?_
          refine go_goto (tgt := 243) dX10_peels_239 rfl ?_
          refine gx_iastore (k + 13) dX10_peels_243 kd_284 (by omega) ln_284 rfl (by omega) ?_
          refine gx_iinc (v := ((k + 1 : Nat) : Int)) (lv' := [(6, vI ((k + 1 : Nat) : Int)), (0, vR 279), (1, vI ((j : Nat) : Int)), (2, vI x), (3, vI z), (4, vI v), (5, vI ah)]) 0 dX10_peels_244 rfl (by omega) ⟨by omega, by omega⟩ (by decide) rfl ?_
          refine go_goto (tgt := 165) dX10_peels_247 rfl ?_
          have e8 : (up2 (up2 (ovo (ovo B 284 1 k (fun i => if i < l then B 284 (i + 2) else 0)) 284 13 k (fun i => if i < l then B 284 (i + 14) else 0)) 284 (k + 1) (B 284 (k + 2))) 284 (k + 13) (B 284 (k + 14))) = (ovo (ovo B 284 1 (k + 1) (fun i => if i < l then B 284 (i + 2) else 0)) 284 13 (k + 1) (fun i => if i < l then B 284 (i + 14) else 0)) := by exact ovo2_s (by omega) (by first | exact (if_pos (by omega)).symm | exact (if_neg (by omega)).symm) (by first | exact (if_pos (by omega)).symm | exact (if_neg (by omega)).symm)
          rw [e8]
          exact ih (k + 1) (by omega) (by omega)

set_option maxHeartbeats 4000000 in
set_option maxRecDepth 100000 in
theorem gp_X10_peels {w j n L : Nat} {x z v ah : Int} {B : inm} {Q : Int → Nat → rfm → inm → Prop} (hL : B 284 0 = (L : Int)) (h12 : 1 ≤ L ∧ L ≤ 12) (hn : B 284 44 = (n : Int) ∧ n ≤ 20) (hQ : Q v 303 (PP w) (rSh (rTk B n L j x z) (L - 1))) : Go S0 yX10_peels cX10_peels 7 2 0 0 (some .int) 137 [(0, vR 279), (1, vI ((j : Nat) : Int)), (2, vI x), (3, vI z), (4, vI v), (5, vI ah)] [] 303 (PP w) B (fun v n P M => ∃ z, v = some (vI z) ∧ Q z n P M) := by
  refine go_aload_n 0 dX10_peels_137 rfl rfl ?_
  refine go_getR (r := 284) dX10_peels_138 lk10_22.get kd_279 (by omega) rfl (pp_279_8 w) ?_
  refine go_bipush dX10_peels_141 (by decide) (by decide) ?_
  refine go_iload_n 1 dX10_peels_143 rfl rfl ?_
  refine gx_iastore 28 dX10_peels_144 kd_284 (by omega) ln_284 (by omega) (by omega) ?_
  refine go_aload_n 0 dX10_peels_145 rfl rfl ?_
  refine go_iload_n 1 dX10_peels_146 rfl rfl ?_
  refine go_iload_n 2 dX10_peels_147 rfl rfl ?_
  refine go_iload_n 3 dX10_peels_148 rfl rfl ?_
  refine go_callVV (av := [vI ((j : Nat) : Int), vI x, vI z]) (st := []) (a := 279) (mc2 := 0) (ms2 := 0) dX10_peels_149 cw10_240 (by decide) rfl rfl (Nat.le_of_ble_eq_true rfl) rfl rfl kd_279 ⟨_, _, rfl⟩ (by decide) (by omega) (ok_X10_enters (M := (up2 B 284 28 ((j : Nat) : Int))) ⟨(up2_ne (by omega)).trans hn.1, hn.2⟩ ?_)
  refine go_aload_n 0 dX10_peels_152 rfl rfl ?_
  refine go_getR (r := 284) dX10_peels_153 lk10_22.get kd_279 (by omega) rfl (pp_279_8 w) ?_
  refine go_iconst dX10_peels_156 (by decide) ?_
  refine go_dup2 dX10_peels_157 rfl rfl ?_
  refine gx_iaload (v := ((L : Nat) : Int)) 0 dX10_peels_158 kd_284 (by omega) ln_284 (by omega) (by omega) (((rEnter_out (by omega))).trans (((up2_ne (by omega)).trans hL))) ?_
  refine go_iconst dX10_peels_159 (by decide) ?_
  refine gx_isub (v := ((L - 1 : Nat) : Int)) dX10_peels_160 (by omega) ⟨by omega, by omega⟩ ?_
  refine gx_iastore 0 dX10_peels_161 kd_284 (by omega) ln_284 (by omega) (by omega) ?_
  refine go_iconst dX10_peels_162 (by decide) ?_
  refine go_istore (lv' := [(6, vI 0), (0, vR 279), (1, vI ((j : Nat) : Int)), (2, vI x), (3, vI z), (4, vI v), (5, vI ah)]) dX10_peels_163 (by decide) rfl ?_
  refine go_lv [0, 1, 2, 3, 4, 5, 6] rfl ?_
  refine go_m (M' := ovo (ovo (rTk B n L j x z) 284 1 0 (fun i => if i < L - 1 then (rTk B n L j x z) 284 (i + 2) else 0)) 284 13 0 (fun i => if i < L - 1 then (rTk B n L j x z) 284 (i + 14) else 0)) ((ovo_0.trans ovo_0).symm) ?_
  exact lp_X10_peels (l := L - 1) (B := rTk B n L j x z) up2_same (by omega) hQ 13 0 (by omega) (by omega)

theorem rT2_out {M : inm} {j y i : Nat} (hj : j < 5 ∧ M 284 28 ≤ 4) (h : y ≠ 284 ∨ i < 29 ∨ 44 ≤ i) : rTake2 M j y i = M y i := by
  unfold rTake2 rTake1
  split
  · rw [up2_ne (by omega), up2_ne (by omega), up2_ne (by omega), up2_ne (by omega)]
  · rw [up2_ne (by omega), up2_ne (by omega), up2_ne (by omega)]
set_option maxHeartbeats 4000000 in
set_option maxRecDepth 100000 in
theorem ok_X10_peels {w j n L U : Nat} {M : inm} {Q : Int → Nat → rfm → inm → Prop} (hb : RB M L n U) (h1L : 1 ≤ L) (hj : j < 5) (hca : 0 ≤ M 280 j ∧ M 280 j ≤ 9) (hQ : Q (worth (M 284 1) (M 284 13)) 303 (PP w) (rTake M j n L)) : OkI yX10_peels cX10_peels 7 2 0 0 (some .int) [vR 279, vI ((j : Nat) : Int)] 303 (PP w) M Q := by
  refine OkI.of (by decide +kernel) (by decide +kernel) (Nat.le_of_ble_eq_true rfl) ?_
  refine go_eq (lv' := [(0, vR 279), (1, vI ((j : Nat) : Int))]) rfl rfl rfl rfl rfl ?_
  obtain ⟨hLay, hn, hg, hT, hp, hy, ha, hst, hU⟩ := hb
  have hL0 := hLay.1
  have h12 : 1 ≤ L ∧ L ≤ 12 := ⟨h1L, hLay.2.1⟩
  have ht := hLay.2.2.1 0 (by omega)
  rw [Nat.zero_add] at ht
  refine go_aload_n 0 dX10_peels_0 rfl rfl ?_
  refine go_getR (r := 284) dX10_peels_1 lk10_22.get kd_279 (by omega) rfl (pp_279_8 w) ?_
  refine go_iconst dX10_peels_4 (by decide) ?_
  refine gx_iaload (v := (M 284 1)) 1 dX10_peels_5 kd_284 (by omega) ln_284 (by omega) (by omega) rfl ?_
  refine go_istore_n (lv' := [(2, vI (M 284 1)), (0, vR 279), (1, vI ((j : Nat) : Int))]) dX10_peels_6 rfl (by decide) rfl ?_
  refine go_aload_n 1 dX10_peels_7 rfl rfl ?_
  refine go_getR (r := 284) dX10_peels_8 lk10_22.get kd_279 (by omega) rfl (pp_279_8 w) ?_
  refine go_bipush dX10_peels_11 (by decide) (by decide) ?_
  refine gx_iaload (v := (M 284 13)) 13 dX10_peels_13 kd_284 (by omega) ln_284 (by omega) (by omega) rfl ?_
  refine go_istore_n (lv' := [(3, vI (M 284 13)), (2, vI (M 284 1)), (0, vR 279), (1, vI ((j : Nat) : Int))]) dX10_peels_14 rfl (by decide) rfl ?_
  refine go_aload_n 2 dX10_peels_15 rfl rfl ?_
  refine go_iconst dX10_peels_16 (by decide) ?_
  refine go_callVI (av := [vI 0]) (st := []) (a := 279) (mc2 := 0) (ms2 := 0) dX10_peels_17 cw10_224 (by decide) rfl rfl (Nat.le_of_ble_eq_true rfl) rfl rfl kd_279 ⟨_, _, rfl⟩ (by decide) (by omega) (ok_X10_worthOf (k := 0) (by omega) ht ?_)
  have hw := worth_in (c := M 284 1) ht.1
  have hs := sting_in (c := M 284 1) ht.1
  refine go_istore (lv' := [(4, vI (worth (M 284 1) (M 284 13))), (3, vI (M 284 13)), (2, vI (M 284 1)), (0, vR 279), (1, vI ((j : Nat) : Int))]) dX10_peels_20 (by decide) rfl ?_
  refine go_aload_n 3 dX10_peels_22 rfl rfl ?_
  refine go_getR (r := 284) dX10_peels_23 lk10_22.get kd_279 (by omega) rfl (pp_279_8 w) ?_
  refine go_bipush dX10_peels_26 (by decide) (by decide) ?_
  refine go_iload_n 4 dX10_peels_28 rfl rfl ?_
  refine gx_iadd (v := ((j + 29 : Nat) : Int)) dX10_peels_29 (by omega) ⟨by omega, by omega⟩ ?_
  refine go_aload_n 3 dX10_peels_30 rfl rfl ?_
  refine go_getR (r := 284) dX10_peels_31 lk10_22.get kd_279 (by omega) rfl (pp_279_8 w) ?_
  refine go_bipush dX10_peels_34 (by decide) (by decide) ?_
  refine go_iload_n 4 dX10_peels_36 rfl rfl ?_
  refine gx_iadd (v := ((j + 29 : Nat) : Int)) dX10_peels_37 (by omega) ⟨by omega, by omega⟩ ?_
  have f1 := hg j hj
  refine gx_iaload (v := (M 284 (j + 29))) (j + 29) dX10_peels_38 kd_284 (by omega) ln_284 rfl (by omega) rfl ?_
  refine go_iload 0 dX10_peels_39 rfl ?_
  refine gx_iadd (v := ((M 284 (j + 29)) + (worth (M 284 1) (M 284 13)))) dX10_peels_41 rfl ⟨by omega, by omega⟩ ?_
  refine go_callSI (av := [vI ((M 284 (j + 29)) + (worth (M 284 1) (M 284 13)))]) (st := [vI ((j + 29 : Nat) : Int), vR 284]) (mc2 := 0) (ms2 := 0) dX10_peels_42 cw10_237 (by decide) rfl rfl (Nat.le_of_ble_eq_true rfl) rfl rfl (ok_X10_capped ?_)
  refine gx_iastore (j + 29) dX10_peels_45 kd_284 (by omega) ln_284 rfl (by omega) ?_
  refine go_aload_n 3 dX10_peels_46 rfl rfl ?_
  refine go_getR (r := 284) dX10_peels_47 lk10_22.get kd_279 (by omega) rfl (pp_279_8 w) ?_
  refine go_bipush dX10_peels_50 (by decide) (by decide) ?_
  refine go_iload_n 4 dX10_peels_52 rfl rfl ?_
  refine gx_iadd (v := ((j + 34 : Nat) : Int)) dX10_peels_53 (by omega) ⟨by omega, by omega⟩ ?_
  refine go_aload_n 3 dX10_peels_54 rfl rfl ?_
  refine go_getR (r := 284) dX10_peels_55 lk10_22.get kd_279 (by omega) rfl (pp_279_8 w) ?_
  refine go_bipush dX10_peels_58 (by decide) (by decide) ?_
  refine go_iload_n 4 dX10_peels_60 rfl rfl ?_
  refine gx_iadd (v := ((j + 34 : Nat) : Int)) dX10_peels_61 (by omega) ⟨by omega, by omega⟩ ?_
  have f2 := hT j hj
  refine gx_iaload (v := (M 284 (j + 34))) (j + 34) dX10_peels_62 kd_284 (by omega) ln_284 rfl (by omega) (up2_ne (by omega)) ?_
  refine go_aload_n 3 dX10_peels_63 rfl rfl ?_
  refine go_iconst dX10_peels_64 (by decide) ?_
  refine go_callVI (av := [vI 0]) (st := [vI (M 284 (j + 34)), vI ((j + 34 : Nat) : Int), vR 284]) (a := 279) (mc2 := 0) (ms2 := 0) dX10_peels_65 cw10_227 (by decide) rfl rfl (Nat.le_of_ble_eq_true rfl) rfl rfl kd_279 ⟨_, _, rfl⟩ (by decide) (by omega) (ok_X10_stingOf (k := 0) (M := (up2 M 284 (j + 29) (min 9999 ((M 284 (j + 29)) + (worth (M 284 1) (M 284 13)))))) (by omega) (by rw [up2_ne (by omega)]; exact ht) ?_)
  rw [show sting ((up2 M 284 (j + 29) (min 9999 ((M 284 (j + 29)) + (worth (M 284 1) (M 284 13))))) 284 (0 + 1)) ((up2 M 284 (j + 29) (min 9999 ((M 284 (j + 29)) + (worth (M 284 1) (M 284 13))))) 284 (0 + 13)) = (sting (M 284 1) (M 284 13)) by rw [up2_ne (by omega), up2_ne (by omega)]]
  refine gx_iadd (v := ((M 284 (j + 34)) + (sting (M 284 1) (M 284 13)))) dX10_peels_68 rfl ⟨by omega, by omega⟩ ?_
  refine go_aload_n 3 dX10_peels_69 rfl rfl ?_
  refine go_getR (r := 280) dX10_peels_70 lk10_7.get kd_279 (by omega) rfl (pp_279_3 w) ?_
  refine go_iload_n 4 dX10_peels_73 rfl rfl ?_
  have f3 := hca
  refine gx_iaload (v := (M 280 j)) j dX10_peels_74 kd_280 (by omega) ln_280 rfl (by omega) (up2_ne (by omega)) ?_
  refine gx_iadd (v := (((M 284 (j + 34)) + (sting (M 284 1) (M 284 13))) + (M 280 j))) dX10_peels_75 rfl ⟨by omega, by omega⟩ ?_
  refine go_callSI (av := [vI (((M 284 (j + 34)) + (sting (M 284 1) (M 284 13))) + (M 280 j))]) (st := [vI ((j + 34 : Nat) : Int), vR 284]) (mc2 := 0) (ms2 := 0) dX10_peels_76 cw10_237 (by decide) rfl rfl (Nat.le_of_ble_eq_true rfl) rfl rfl (ok_X10_capped ?_)
  refine gx_iastore (j + 34) dX10_peels_79 kd_284 (by omega) ln_284 rfl (by omega) ?_
  refine go_aload_n 3 dX10_peels_80 rfl rfl ?_
  refine go_getR (r := 284) dX10_peels_81 lk10_22.get kd_279 (by omega) rfl (pp_279_8 w) ?_
  refine go_bipush dX10_peels_84 (by decide) (by decide) ?_
  refine go_iload_n 4 dX10_peels_86 rfl rfl ?_
  refine gx_iadd (v := ((j + 39 : Nat) : Int)) dX10_peels_87 (by omega) ⟨by omega, by omega⟩ ?_
  refine go_dup2 dX10_peels_88 rfl rfl ?_
  have f4 := hp j hj
  refine gx_iaload (v := (M 284 (j + 39))) (j + 39) dX10_peels_89 kd_284 (by omega) ln_284 rfl (by omega) ((up2_ne (by omega)).trans (up2_ne (by omega))) ?_
  refine go_iconst dX10_peels_90 (by decide) ?_
  refine gx_iadd (v := ((M 284 (j + 39)) + 1)) dX10_peels_91 rfl ⟨by omega, by omega⟩ ?_
  refine gx_iastore (j + 39) dX10_peels_92 kd_284 (by omega) ln_284 rfl (by omega) ?_
  refine go_aload_n 3 dX10_peels_93 rfl rfl ?_
  refine go_getR (r := 284) dX10_peels_94 lk10_22.get kd_279 (by omega) rfl (pp_279_8 w) ?_
  refine go_bipush dX10_peels_97 (by decide) (by decide) ?_
  have f5 := ha
  refine gx_iaload (v := (M 284 28)) 28 dX10_peels_99 kd_284 (by omega) ln_284 (by omega) (by omega) ((up2_ne (by omega)).trans ((up2_ne (by omega)).trans (up2_ne (by omega)))) ?_
  refine go_istore (lv' := [(5, vI (M 284 28)), (4, vI (worth (M 284 1) (M 284 13))), (3, vI (M 284 13)), (2, vI (M 284 1)), (0, vR 279), (1, vI ((j : Nat) : Int))]) dX10_peels_100 (by decide) rfl ?_
  refine go_iload_n 3 dX10_peels_102 rfl rfl ?_
  refine go_iconst dX10_peels_103 (by decide) ?_
  refine go_icmp_ne (tgt := 137) dX10_peels_104 rfl (fun c6 => ?_) (fun c6 => ?_)
  · refine go_lv [4, 5, 3, 2, 1, 0] rfl ?_
    refine go_m (M' := rTake2 M j) (by exact (if_neg (by omega)).symm) ?_
    exact gp_X10_peels (n := n) (L := L) (by rw [rT2_out (by omega) (by omega)]; exact hL0) h12 ⟨by rw [rT2_out (by omega) (by omega)]; exact hn.1, hn.2⟩ hQ
  · refine go_iload 0 dX10_peels_107 rfl ?_
    refine go_if_lt (tgt := 137) dX10_peels_109 rfl (fun c7 => ?_) (fun c7 => ?_)
    · refine go_lv [4, 5, 3, 2, 1, 0] rfl ?_
      refine go_m (M' := rTake2 M j) (by exact (if_neg (by omega)).symm) ?_
      exact gp_X10_peels (n := n) (L := L) (by rw [rT2_out (by omega) (by omega)]; exact hL0) h12 ⟨by rw [rT2_out (by omega) (by omega)]; exact hn.1, hn.2⟩ hQ
    · refine go_aload_n 4 dX10_peels_112 rfl rfl ?_
      refine go_getR (r := 284) dX10_peels_113 lk10_22.get kd_279 (by omega) rfl (pp_279_8 w) ?_
      refine go_bipush dX10_peels_116 (by decide) (by decide) ?_
      refine go_iload 0 dX10_peels_118 rfl ?_
      refine gx_iadd (v := (29 + (M 284 28))) dX10_peels_120 rfl ⟨by omega, by omega⟩ ?_
      refine go_aload_n 4 dX10_peels_121 rfl rfl ?_
      refine go_getR (r := 284) dX10_peels_122 lk10_22.get kd_279 (by omega) rfl (pp_279_8 w) ?_
      refine go_bipush dX10_peels_125 (by decide) (by decide) ?_
      refine go_iload 0 dX10_peels_127 rfl ?_
      refine gx_iadd (v := (29 + (M 284 28))) dX10_peels_129 rfl ⟨by omega, by omega⟩ ?_
      have f8 := (show 0 ≤ ((up2 (up2 (up2 M 284 (j + 29) (min 9999 ((M 284 (j + 29)) + (worth (M 284 1) (M 284 13))))) 284 (j + 34) (min 9999 (((M 284 (j + 34)) + (sting (M 284 1) (M 284 13))) + (M 280 j)))) 284 (j + 39) ((M 284 (j + 39)) + 1)) 284 (((29 + (M 284 28))).toNat)) ∧ ((up2 (up2 (up2 M 284 (j + 29) (min 9999 ((M 284 (j + 29)) + (worth (M 284 1) (M 284 13))))) 284 (j + 34) (min 9999 (((M 284 (j + 34)) + (sting (M 284 1) (M 284 13))) + (M 280 j)))) 284 (j + 39) ((M 284 (j + 39)) + 1)) 284 (((29 + (M 284 28))).toNat)) ≤ 9999 from rT1_in hj ⟨by omega, by omega⟩ hg hw.1)
      refine gx_iaload (v := ((up2 (up2 (up2 M 284 (j + 29) (min 9999 ((M 284 (j + 29)) + (worth (M 284 1) (M 284 13))))) 284 (j + 34) (min 9999 (((M 284 (j + 34)) + (sting (M 284 1) (M 284 13))) + (M 280 j)))) 284 (j + 39) ((M 284 (j + 39)) + 1)) 284 (((29 + (M 284 28))).toNat))) (((29 + (M 284 28))).toNat) dX10_peels_130 kd_284 (by omega) ln_284 (by omega) (by omega) rfl ?_
      refine go_iconst dX10_peels_131 (by decide) ?_
      refine gx_iadd (v := (((up2 (up2 (up2 M 284 (j + 29) (min 9999 ((M 284 (j + 29)) + (worth (M 284 1) (M 284 13))))) 284 (j + 34) (min 9999 (((M 284 (j + 34)) + (sting (M 284 1) (M 284 13))) + (M 280 j)))) 284 (j + 39) ((M 284 (j + 39)) + 1)) 284 (((29 + (M 284 28))).toNat)) + 5)) dX10_peels_132 rfl ⟨by omega, by omega⟩ ?_
      refine go_callSI (av := [vI (((up2 (up2 (up2 M 284 (j + 29) (min 9999 ((M 284 (j + 29)) + (worth (M 284 1) (M 284 13))))) 284 (j + 34) (min 9999 (((M 284 (j + 34)) + (sting (M 284 1) (M 284 13))) + (M 280 j)))) 284 (j + 39) ((M 284 (j + 39)) + 1)) 284 (((29 + (M 284 28))).toNat)) + 5)]) (st := [vI (29 + (M 284 28)), vR 284]) (mc2 := 0) (ms2 := 0) dX10_peels_133 cw10_237 (by decide) rfl rfl (Nat.le_of_ble_eq_true rfl) rfl rfl (ok_X10_capped ?_)
      refine gx_iastore (((29 + (M 284 28))).toNat) dX10_peels_136 kd_284 (by omega) ln_284 (by omega) (by omega) ?_
      refine go_lv [4, 5, 3, 2, 1, 0] rfl ?_
      refine go_m (M' := rTake2 M j) (by exact (if_pos ⟨by omega, by omega⟩).symm) ?_
      exact gp_X10_peels (n := n) (L := L) (by rw [rT2_out (by omega) (by omega)]; exact hL0) h12 ⟨by rw [rT2_out (by omega) (by omega)]; exact hn.1, hn.2⟩ hQ

set_option maxHeartbeats 4000000 in
set_option maxRecDepth 100000 in
theorem ok_X10_peel_in {w E L n U u j : Nat} {M : inm} {Q : Int → Nat → rfm → inm → Prop} (hE : M 279 2 = (E : Int) ∧ E ≤ 5) (hu : M 279 33 = (u : Int) ∧ u ≤ 30) (hb : RB M L n U) (hca : ∀ e, e < E → 0 ≤ M 280 e ∧ M 280 e ≤ 9) (hj : j < E) (h0 : ¬ (0 < (L : Int) ∧ M 284 26 = 0) → Q (-1000000003) 303 (PP w) M) (h1 : 0 < (L : Int) → M 284 26 = 0 → Q (worth (M 284 1) (M 284 13)) 303 (PP w) (rTake (rRem M u) j n L)) : OkI yX10_peel cX10_peel 2 3 0 0 (some .int) [vR 279, vI ((j : Nat) : Int)] 303 (PP w) M Q := by
  refine OkI.of (by decide +kernel) (by decide +kernel) (Nat.le_of_ble_eq_true rfl) ?_
  refine go_eq (lv' := [(0, vR 279), (1, vI ((j : Nat) : Int))]) rfl rfl rfl rfl rfl ?_
  have hE5 := hE.2
  have hL0 := hb.1.1
  refine go_aload_n 0 dX10_peel_0 rfl rfl ?_
  refine go_iload_n 1 dX10_peel_1 rfl rfl ?_
  refine go_callVI (av := [vI ((j : Nat) : Int)]) (st := []) (a := 279) (mc2 := 0) (ms2 := 0) dX10_peel_2 cw10_230 (by decide) rfl rfl (Nat.le_of_ble_eq_true rfl) rfl rfl kd_279 ⟨_, _, rfl⟩ (by decide) (by omega) (ok_X10_isExecutor hE (fun _ _ => ?_) (fun h => absurd ⟨by omega, by omega⟩ h))
  refine go_if_ne (tgt := 11) dX10_peel_5 rfl (fun c1 => ?_) (fun c1 => ?_)
  · refine go_aload_n 0 dX10_peel_11 rfl rfl ?_
    refine go_callVI (av := []) (st := []) (a := 279) (mc2 := 0) (ms2 := 0) dX10_peel_12 cw10_244 (by decide) rfl rfl (Nat.le_of_ble_eq_true rfl) rfl rfl kd_279 ⟨_, _, rfl⟩ (by decide) (by omega) (ok_X10_canPeel (fun q1 q2 => ?_) (fun q => ?_))
    · skip
      refine go_if_ne (tgt := 21) dX10_peel_15 rfl (fun c2 => ?_) (fun c2 => ?_)
      · refine go_aload_n 0 dX10_peel_21 rfl rfl ?_
        refine go_callVV (av := []) (st := []) (a := 279) (mc2 := 0) (ms2 := 0) dX10_peel_22 cw10_249 (by decide) rfl rfl (Nat.le_of_ble_eq_true rfl) rfl rfl kd_279 ⟨_, _, rfl⟩ (by decide) (by omega) (ok_X10_remember hu.1 hu.2 ?_)
        refine go_aload_n 0 dX10_peel_25 rfl rfl ?_
        refine go_iload_n 1 dX10_peel_26 rfl rfl ?_
        refine go_callVI (av := [vI ((j : Nat) : Int)]) (st := []) (a := 279) (mc2 := 0) (ms2 := 0) dX10_peel_27 cw10_252 (by decide) rfl rfl (Nat.le_of_ble_eq_true rfl) rfl rfl kd_279 ⟨_, _, rfl⟩ (by decide) (by omega) (ok_X10_peels (M := rRem M u) (n := n) (L := L) (U := U) (hb.of (fun i => rRem_out (by omega))) (by rw [hb.1.1] at q1; omega) (by omega) (by rw [rRem_out (by omega)]; exact hca j hj) ?_)
        rw [show worth (rRem M u 284 1) (rRem M u 284 13) = (worth (M 284 1) (M 284 13)) by rw [rRem_out (by omega), rRem_out (by omega)]]
        refine go_iret dX10_peel_30 rfl rfl ⟨_, rfl, ?_⟩
        first | exact h0 (by omega) | exact h1 (by rw [hb.1.1] at q1; exact q1) q2
      · exact absurd c2 (by decide)
    · skip
      refine go_if_ne (tgt := 21) dX10_peel_15 rfl (fun c3 => ?_) (fun c3 => ?_)
      · exact absurd c3 (by decide)
      · refine go_ldc dX10_peel_18 ik10_248 (by decide) ?_
        refine go_iret dX10_peel_20 rfl rfl ⟨_, rfl, ?_⟩
        first | exact h0 (by omega) | exact h1 (by rw [hb.1.1] at q1; exact q1) q2
  · exact absurd c1 (by decide)

set_option maxHeartbeats 4000000 in
set_option maxRecDepth 100000 in
theorem ok_X10_peel_out {w E : Nat} {k : Int} {M : inm} {Q : Int → Nat → rfm → inm → Prop} (hE : M 279 2 = (E : Int) ∧ E ≤ 5) (hk : ¬ (0 ≤ k ∧ k < (E : Int))) (hQ : Q (-1000000001) 303 (PP w) M) : OkI yX10_peel cX10_peel 2 3 0 0 (some .int) [vR 279, vI k] 303 (PP w) M Q := by
  refine OkI.of (by decide +kernel) (by decide +kernel) (Nat.le_of_ble_eq_true rfl) ?_
  refine go_eq (lv' := [(0, vR 279), (1, vI k)]) rfl rfl rfl rfl rfl ?_
  refine go_aload_n 0 dX10_peel_0 rfl rfl ?_
  refine go_iload_n 1 dX10_peel_1 rfl rfl ?_
  refine go_callVI (av := [vI k]) (st := []) (a := 279) (mc2 := 0) (ms2 := 0) dX10_peel_2 cw10_230 (by decide) rfl rfl (Nat.le_of_ble_eq_true rfl) rfl rfl kd_279 ⟨_, _, rfl⟩ (by decide) (by omega) (ok_X10_isExecutor hE (fun q1 q2 => absurd ⟨q1, q2⟩ hk) (fun _ => ?_))
  refine go_if_ne (tgt := 11) dX10_peel_5 rfl (fun c1 => ?_) (fun c1 => ?_)
  · exact absurd c1 (by decide)
  · refine go_ldc dX10_peel_8 ik10_223 (by decide) ?_
    refine go_iret dX10_peel_10 rfl rfl ⟨_, rfl, ?_⟩
    exact hQ

set_option maxHeartbeats 4000000 in
set_option maxRecDepth 100000 in
theorem ok_X10_stop {w u : Nat} {b : Int} {M : inm} {Q : Int → Nat → rfm → inm → Prop} (hu : M 279 33 = (u : Int) ∧ u ≤ 30) (hb : b = 0 ∨ b = 1) (h0 : M 279 0 = 0 → Q (-1000000003) 303 (PP w) M) (h1 : ¬ M 279 0 = 0 → Q (M 284 26) 303 (PP w) (up2 (rRem M u) 284 26 b)) : OkI yX10_stop cX10_stop 3 1 0 0 (some .int) [vR 279, vI b] 303 (PP w) M Q := by
  refine OkI.of (by decide +kernel) (by decide +kernel) (Nat.le_of_ble_eq_true rfl) ?_
  refine go_eq (lv' := [(0, vR 279), (1, vI b)]) rfl rfl rfl rfl rfl ?_
  refine go_aload_n 0 dX10_stop_0 rfl rfl ?_
  refine gx_getI (v := (M 279 0)) dX10_stop_1 lk10_157.get kd_279 (by omega) rfl rfl ?_
  refine go_if_ne (tgt := 10) dX10_stop_4 rfl (fun c1 => ?_) (fun c1 => ?_)
  · refine go_aload_n 0 dX10_stop_10 rfl rfl ?_
    refine go_callVV (av := []) (st := []) (a := 279) (mc2 := 0) (ms2 := 0) dX10_stop_11 cw10_249 (by decide) rfl rfl (Nat.le_of_ble_eq_true rfl) rfl rfl kd_279 ⟨_, _, rfl⟩ (by decide) (by omega) (ok_X10_remember hu.1 hu.2 ?_)
    refine go_aload_n 0 dX10_stop_14 rfl rfl ?_
    refine go_getR (r := 284) dX10_stop_15 lk10_22.get kd_279 (by omega) rfl (pp_279_8 w) ?_
    refine go_bipush dX10_stop_18 (by decide) (by decide) ?_
    refine gx_iaload (v := (M 284 26)) 26 dX10_stop_20 kd_284 (by omega) ln_284 (by omega) (by omega) ((rRem_out (by omega))) ?_
    refine go_istore_n (lv' := [(2, vI (M 284 26)), (0, vR 279), (1, vI b)]) dX10_stop_21 rfl (by decide) rfl ?_
    refine go_aload_n 1 dX10_stop_22 rfl rfl ?_
    refine go_getR (r := 284) dX10_stop_23 lk10_22.get kd_279 (by omega) rfl (pp_279_8 w) ?_
    refine go_bipush dX10_stop_26 (by decide) (by decide) ?_
    refine go_iload_n 2 dX10_stop_28 rfl rfl ?_
    refine go_if_eq (tgt := 36) dX10_stop_29 rfl (fun c2 => ?_) (fun c2 => ?_)
    · refine go_iconst dX10_stop_36 (by decide) ?_
      refine gx_iastore 26 dX10_stop_37 kd_284 (by omega) ln_284 (by omega) (by omega) ?_
      refine go_iload_n 0 dX10_stop_38 rfl rfl ?_
      refine go_iret dX10_stop_39 rfl rfl ⟨_, rfl, ?_⟩
      first | exact h0 (by omega) | (have q := h1 (by omega); first | (rw [show b = 1 by omega] at q; exact q) | (rw [show b = 0 by omega] at q; exact q))
    · refine go_iconst dX10_stop_32 (by decide) ?_
      refine go_goto (tgt := 37) dX10_stop_33 rfl ?_
      refine gx_iastore 26 dX10_stop_37 kd_284 (by omega) ln_284 (by omega) (by omega) ?_
      refine go_iload_n 0 dX10_stop_38 rfl rfl ?_
      refine go_iret dX10_stop_39 rfl rfl ⟨_, rfl, ?_⟩
      first | exact h0 (by omega) | (have q := h1 (by omega); first | (rw [show b = 1 by omega] at q; exact q) | (rw [show b = 0 by omega] at q; exact q))
  · refine go_ldc dX10_stop_7 ik10_248 (by decide) ?_
    refine go_iret dX10_stop_9 rfl rfl ⟨_, rfl, ?_⟩
    first | exact h0 (by omega) | (have q := h1 (by omega); first | (rw [show b = 1 by omega] at q; exact q) | (rw [show b = 0 by omega] at q; exact q))

set_option maxHeartbeats 4000000 in
set_option maxRecDepth 100000 in
theorem ok_X10_visit {w u L : Nat} {M : inm} {Q : Int → Nat → rfm → inm → Prop} (hu : M 279 33 = (u : Int) ∧ u ≤ 30) (hL : Lay10 M L) (h0 : L = 0 → Q (-1000000003) 303 (PP w) M) (h1 : 0 < L → Q (rGrow (rRem M u) L 284 13) 303 (PP w) (rGrow (rRem M u) L)) : OkI yX10_visit cX10_visit 1 1 0 0 (some .int) [vR 279] 303 (PP w) M Q := by
  refine OkI.of (by decide +kernel) (by decide +kernel) (Nat.le_of_ble_eq_true rfl) ?_
  refine go_eq (lv' := [(0, vR 279)]) rfl rfl rfl rfl rfl ?_
  refine go_aload_n 0 dX10_visit_0 rfl rfl ?_
  refine go_getR (r := 284) dX10_visit_1 lk10_22.get kd_279 (by omega) rfl (pp_279_8 w) ?_
  refine go_iconst dX10_visit_4 (by decide) ?_
  refine gx_iaload (v := ((L : Nat) : Int)) 0 dX10_visit_5 kd_284 (by omega) ln_284 (by omega) (by omega) hL.1 ?_
  refine go_if_ne (tgt := 12) dX10_visit_6 rfl (fun c1 => ?_) (fun c1 => ?_)
  · refine go_aload_n 0 dX10_visit_12 rfl rfl ?_
    refine go_callVV (av := []) (st := []) (a := 279) (mc2 := 0) (ms2 := 0) dX10_visit_13 cw10_249 (by decide) rfl rfl (Nat.le_of_ble_eq_true rfl) rfl rfl kd_279 ⟨_, _, rfl⟩ (by decide) (by omega) (ok_X10_remember hu.1 hu.2 ?_)
    refine go_aload_n 0 dX10_visit_16 rfl rfl ?_
    refine go_callVV (av := []) (st := []) (a := 279) (mc2 := 0) (ms2 := 0) dX10_visit_17 cw10_255 (by decide) rfl rfl (Nat.le_of_ble_eq_true rfl) rfl rfl kd_279 ⟨_, _, rfl⟩ (by decide) (by omega) (ok_X10_grows (M := rRem M u) (L := L) ((rRem_out (by omega)).trans hL.1) (by rw [rRem_out (by omega)]; have h9 := hL.2.2.1 0 (by omega); rw [Nat.zero_add] at h9; exact h9) ?_)
    refine go_aload_n 0 dX10_visit_20 rfl rfl ?_
    refine go_getR (r := 284) dX10_visit_21 lk10_22.get kd_279 (by omega) rfl (pp_279_8 w) ?_
    refine go_bipush dX10_visit_24 (by decide) (by decide) ?_
    refine gx_iaload (v := ((rGrow (rRem M u) L) 284 13)) 13 dX10_visit_26 kd_284 (by omega) ln_284 (by omega) (by omega) rfl ?_
    refine go_iret dX10_visit_27 rfl rfl ⟨_, rfl, ?_⟩
    first | exact h0 (by omega) | exact h1 (by omega)
  · refine go_ldc dX10_visit_9 ik10_248 (by decide) ?_
    refine go_iret dX10_visit_11 rfl rfl ⟨_, rfl, ?_⟩
    first | exact h0 (by omega) | exact h1 (by omega)

theorem drawR_in (s : Int) : 0 ≤ drawR s ∧ drawR s ≤ 2147483647 := by unfold drawR; omega
def rDraw (M : inm) (E n L : Nat) : inm := if ((drawR (M 279 9)) / 65536 % 6) < 2 then (if 0 < (L : Int) ∧ M 284 26 = 0 then rTake (up2 (up2 M 279 9 (drawR (M 279 9))) 279 9 (drawR (drawR (M 279 9)))) ((drawR (drawR (M 279 9))) / 65536 % (E : Int)).toNat n L else (up2 (up2 M 279 9 (drawR (M 279 9))) 279 9 (drawR (drawR (M 279 9))))) else if ((drawR (M 279 9)) / 65536 % 6) = 2 ∧ 0 < (L : Int) then rGrow (up2 M 279 9 (drawR (M 279 9))) L else if ((drawR (M 279 9)) / 65536 % 6) = 3 then up2 (up2 M 279 9 (drawR (M 279 9))) 284 26 (1 - M 284 26) else (up2 M 279 9 (drawR (M 279 9)))
set_option maxHeartbeats 4000000 in
set_option maxRecDepth 100000 in
theorem ok_X10_chance {w E L n U : Nat} {M : inm} {Q : Nat → rfm → inm → Prop} (hE : M 279 2 = (E : Int) ∧ 1 ≤ E ∧ E ≤ 5) (hb : RB M L n U) (hca : ∀ e, e < E → 0 ≤ M 280 e ∧ M 280 e ≤ 9) (hsd : 0 ≤ M 279 9 ∧ M 279 9 ≤ 2147483647) (hQ : Q 303 (PP w) (rDraw M E n L)) : OkV yX10_chance cX10_chance 3 3 0 0 [vR 279] 303 (PP w) M Q := by
  refine OkV.of (by decide +kernel) (by decide +kernel) (Nat.le_of_ble_eq_true rfl) ?_
  refine go_eq (lv' := [(0, vR 279)]) rfl rfl rfl rfl rfl ?_
  have hL0 := hb.1.1
  have hst := hb.2.2.2.2.2.2.2.1
  have hd1 := drawR_in (M 279 9)
  have hd2 := drawR_in (drawR (M 279 9))
  have hm1 := Int.emod_nonneg ((drawR (M 279 9)) / 65536) (show (6 : Int) ≠ 0 by decide)
  have hm2 := Int.emod_nonneg ((drawR (drawR (M 279 9))) / 65536) (show (E : Int) ≠ 0 by omega)
  have hm3 := Int.emod_lt_of_pos ((drawR (drawR (M 279 9))) / 65536) (show (0 : Int) < (E : Int) by omega)
  refine go_aload_n 0 dX10_chance_0 rfl rfl ?_
  refine go_bipush dX10_chance_1 (by decide) (by decide) ?_
  refine go_callVI (av := [vI 6]) (st := []) (a := 279) (mc2 := 0) (ms2 := 0) dX10_chance_3 cw10_276 (by decide) rfl rfl (Nat.le_of_ble_eq_true rfl) rfl rfl kd_279 ⟨_, _, rfl⟩ (by decide) (by omega) (ok_X10_draw (M := M) hsd (by omega) ?_)
  refine go_istore_n (lv' := [(1, vI (drawR (M 279 9) / 65536 % 6)), (0, vR 279)]) dX10_chance_6 rfl (by decide) rfl ?_
  refine go_iload_n 0 dX10_chance_7 rfl rfl ?_
  refine go_iconst dX10_chance_8 (by decide) ?_
  refine go_icmp_ge (tgt := 37) dX10_chance_9 rfl (fun c1 => ?_) (fun c1 => ?_)
  · refine go_iload_n 0 dX10_chance_37 rfl rfl ?_
    refine go_iconst dX10_chance_38 (by decide) ?_
    refine go_icmp_ne (tgt := 58) dX10_chance_39 rfl (fun c2 => ?_) (fun c2 => ?_)
    · refine go_iload_n 0 dX10_chance_58 rfl rfl ?_
      refine go_iconst dX10_chance_59 (by decide) ?_
      refine go_icmp_ne (tgt := 79) dX10_chance_60 rfl (fun c3 => ?_) (fun c3 => ?_)
      · refine go_ret dX10_chance_79 rfl ⟨rfl, ?_⟩
        rw [rDraw] at hQ
        first | (rw [if_pos (by omega), if_pos (by omega)] at hQ; exact hQ) | (rw [if_pos (by omega), if_neg (by omega)] at hQ; exact hQ) | (rw [if_neg (by omega), if_pos (by omega)] at hQ; exact hQ) | (rw [if_neg (by omega), if_neg (by omega), if_pos (by omega)] at hQ; exact hQ) | (rw [if_neg (by omega), if_neg (by omega), if_neg (by omega)] at hQ; exact hQ)
      · refine go_aload_n 1 dX10_chance_63 rfl rfl ?_
        refine go_getR (r := 284) dX10_chance_64 lk10_22.get kd_279 (by omega) rfl (pp_279_8 w) ?_
        refine go_bipush dX10_chance_67 (by decide) (by decide) ?_
        refine go_iconst dX10_chance_69 (by decide) ?_
        refine go_aload_n 1 dX10_chance_70 rfl rfl ?_
        refine go_getR (r := 284) dX10_chance_71 lk10_22.get kd_279 (by omega) rfl (pp_279_8 w) ?_
        refine go_bipush dX10_chance_74 (by decide) (by decide) ?_
        have f4 := hst
        refine gx_iaload (v := (M 284 26)) 26 dX10_chance_76 kd_284 (by omega) ln_284 (by omega) (by omega) (up2_ne (by omega)) ?_
        refine gx_isub (v := (1 - (M 284 26))) dX10_chance_77 rfl ⟨by omega, by omega⟩ ?_
        refine gx_iastore 26 dX10_chance_78 kd_284 (by omega) ln_284 (by omega) (by omega) ?_
        refine go_ret dX10_chance_79 rfl ⟨rfl, ?_⟩
        rw [rDraw] at hQ
        first | (rw [if_pos (by omega), if_pos (by omega)] at hQ; exact hQ) | (rw [if_pos (by omega), if_neg (by omega)] at hQ; exact hQ) | (rw [if_neg (by omega), if_pos (by omega)] at hQ; exact hQ) | (rw [if_neg (by omega), if_neg (by omega), if_pos (by omega)] at hQ; exact hQ) | (rw [if_neg (by omega), if_neg (by omega), if_neg (by omega)] at hQ; exact hQ)
    · refine go_aload_n 1 dX10_chance_42 rfl rfl ?_
      refine go_getR (r := 284) dX10_chance_43 lk10_22.get kd_279 (by omega) rfl (pp_279_8 w) ?_
      refine go_iconst dX10_chance_46 (by decide) ?_
      refine gx_iaload (v := ((L : Nat) : Int)) 0 dX10_chance_47 kd_284 (by omega) ln_284 (by omega) (by omega) ((up2_ne (by omega)).trans hL0) ?_
      refine go_if_le (tgt := 58) dX10_chance_48 rfl (fun c5 => ?_) (fun c5 => ?_)
      · refine go_iload_n 0 dX10_chance_58 rfl rfl ?_
        refine go_iconst dX10_chance_59 (by decide) ?_
        refine go_icmp_ne (tgt := 79) dX10_chance_60 rfl (fun c6 => ?_) (fun c6 => ?_)
        · refine go_ret dX10_chance_79 rfl ⟨rfl, ?_⟩
          rw [rDraw] at hQ
          first | (rw [if_pos (by omega), if_pos (by omega)] at hQ; exact hQ) | (rw [if_pos (by omega), if_neg (by omega)] at hQ; exact hQ) | (rw [if_neg (by omega), if_pos (by omega)] at hQ; exact hQ) | (rw [if_neg (by omega), if_neg (by omega), if_pos (by omega)] at hQ; exact hQ) | (rw [if_neg (by omega), if_neg (by omega), if_neg (by omega)] at hQ; exact hQ)
        · refine go_aload_n 1 dX10_chance_63 rfl rfl ?_
          refine go_getR (r := 284) dX10_chance_64 lk10_22.get kd_279 (by omega) rfl (pp_279_8 w) ?_
          refine go_bipush dX10_chance_67 (by decide) (by decide) ?_
          refine go_iconst dX10_chance_69 (by decide) ?_
          refine go_aload_n 1 dX10_chance_70 rfl rfl ?_
          refine go_getR (r := 284) dX10_chance_71 lk10_22.get kd_279 (by omega) rfl (pp_279_8 w) ?_
          refine go_bipush dX10_chance_74 (by decide) (by decide) ?_
          have f7 := hst
          refine gx_iaload (v := (M 284 26)) 26 dX10_chance_76 kd_284 (by omega) ln_284 (by omega) (by omega) (up2_ne (by omega)) ?_
          refine gx_isub (v := (1 - (M 284 26))) dX10_chance_77 rfl ⟨by omega, by omega⟩ ?_
          refine gx_iastore 26 dX10_chance_78 kd_284 (by omega) ln_284 (by omega) (by omega) ?_
          refine go_ret dX10_chance_79 rfl ⟨rfl, ?_⟩
          rw [rDraw] at hQ
          first | (rw [if_pos (by omega), if_pos (by omega)] at hQ; exact hQ) | (rw [if_pos (by omega), if_neg (by omega)] at hQ; exact hQ) | (rw [if_neg (by omega), if_pos (by omega)] at hQ; exact hQ) | (rw [if_neg (by omega), if_neg (by omega), if_pos (by omega)] at hQ; exact hQ) | (rw [if_neg (by omega), if_neg (by omega), if_neg (by omega)] at hQ; exact hQ)
      · refine go_aload_n 1 dX10_chance_51 rfl rfl ?_
        refine go_callVV (av := []) (st := []) (a := 279) (mc2 := 0) (ms2 := 0) dX10_chance_52 cw10_255 (by decide) rfl rfl (Nat.le_of_ble_eq_true rfl) rfl rfl kd_279 ⟨_, _, rfl⟩ (by decide) (by omega) (ok_X10_grows (M := (up2 M 279 9 (drawR (M 279 9)))) (L := L) ((up2_ne (by omega)).trans hL0) (by rw [up2_ne (by omega)]; have h9 := hb.1.2.2.1 0 (by omega); rw [Nat.zero_add] at h9; exact h9) ?_)
        refine go_goto (tgt := 79) dX10_chance_55 rfl ?_
        refine go_ret dX10_chance_79 rfl ⟨rfl, ?_⟩
        rw [rDraw] at hQ
        first | (rw [if_pos (by omega), if_pos (by omega)] at hQ; exact hQ) | (rw [if_pos (by omega), if_neg (by omega)] at hQ; exact hQ) | (rw [if_neg (by omega), if_pos (by omega)] at hQ; exact hQ) | (rw [if_neg (by omega), if_neg (by omega), if_pos (by omega)] at hQ; exact hQ) | (rw [if_neg (by omega), if_neg (by omega), if_neg (by omega)] at hQ; exact hQ)
  · refine go_aload_n 1 dX10_chance_12 rfl rfl ?_
    refine go_aload_n 1 dX10_chance_13 rfl rfl ?_
    refine gx_getI (v := ((E : Nat) : Int)) dX10_chance_14 lk10_91.get kd_279 (by omega) rfl ((up2_ne (by omega)).trans hE.1) ?_
    refine go_callVI (av := [vI ((E : Nat) : Int)]) (st := []) (a := 279) (mc2 := 0) (ms2 := 0) dX10_chance_17 cw10_276 (by decide) rfl rfl (Nat.le_of_ble_eq_true rfl) rfl rfl kd_279 ⟨_, _, rfl⟩ (by decide) (by omega) (ok_X10_draw (M := (up2 M 279 9 (drawR (M 279 9)))) (by rw [show (up2 M 279 9 (drawR (M 279 9))) 279 9 = (drawR (M 279 9)) from up2_same]; exact drawR_in _) (by omega) ?_)
    rw [show (up2 M 279 9 (drawR (M 279 9))) 279 9 = (drawR (M 279 9)) from up2_same]
    refine go_istore_n (lv' := [(2, vI (drawR (drawR (M 279 9)) / 65536 % ((E : Nat) : Int))), (1, vI (drawR (M 279 9) / 65536 % 6)), (0, vR 279)]) dX10_chance_20 rfl (by decide) rfl ?_
    refine go_aload_n 2 dX10_chance_21 rfl rfl ?_
    refine go_callVI (av := []) (st := []) (a := 279) (mc2 := 0) (ms2 := 0) dX10_chance_22 cw10_244 (by decide) rfl rfl (Nat.le_of_ble_eq_true rfl) rfl rfl kd_279 ⟨_, _, rfl⟩ (by decide) (by omega) (ok_X10_canPeel (M := (up2 (up2 M 279 9 (drawR (M 279 9))) 279 9 (drawR (drawR (M 279 9))))) (fun q1 q2 => ?_) (fun q => ?_))
    · rw [up2_ne (by omega), up2_ne (by omega)] at q1 q2
      refine go_if_eq (tgt := 34) dX10_chance_25 rfl (fun c8 => ?_) (fun c8 => ?_)
      · exact absurd c8 (by decide)
      · refine go_lv [0, 2, 1] rfl ?_
        refine go_eq (lv' := [(2, vI ((((drawR (drawR (M 279 9))) / 65536 % (E : Int)).toNat : Nat) : Int)), (0, vR 279), (1, vI (drawR (M 279 9) / 65536 % 6))]) (by rw [show ((((drawR (drawR (M 279 9))) / 65536 % (E : Int)).toNat : Nat) : Int) = (drawR (drawR (M 279 9))) / 65536 % (E : Int) by omega]; rfl) rfl rfl rfl rfl ?_
        refine go_aload_n 1 dX10_chance_28 rfl rfl ?_
        refine go_iload_n 0 dX10_chance_29 rfl rfl ?_
        refine go_callVI (av := [vI ((((drawR (drawR (M 279 9))) / 65536 % (E : Int)).toNat : Nat) : Int)]) (st := []) (a := 279) (mc2 := 0) (ms2 := 0) dX10_chance_30 cw10_252 (by decide) rfl rfl (Nat.le_of_ble_eq_true rfl) rfl rfl kd_279 ⟨_, _, rfl⟩ (by decide) (by omega) (ok_X10_peels (j := ((drawR (drawR (M 279 9))) / 65536 % (E : Int)).toNat) (M := (up2 (up2 M 279 9 (drawR (M 279 9))) 279 9 (drawR (drawR (M 279 9))))) (n := n) (L := L) (U := U) (hb.of (fun i => (up2_ne (by omega)).trans (up2_ne (by omega)))) (by omega) (by omega) (by rw [up2_ne (by omega), up2_ne (by omega)]; exact hca ((drawR (drawR (M 279 9))) / 65536 % (E : Int)).toNat (by omega)) ?_)
        refine go_pop dX10_chance_33 rfl ?_
        refine go_goto (tgt := 79) dX10_chance_34 rfl ?_
        refine go_ret dX10_chance_79 rfl ⟨rfl, ?_⟩
        rw [rDraw] at hQ
        first | (rw [if_pos (by omega), if_pos (by omega)] at hQ; exact hQ) | (rw [if_pos (by omega), if_neg (by omega)] at hQ; exact hQ) | (rw [if_neg (by omega), if_pos (by omega)] at hQ; exact hQ) | (rw [if_neg (by omega), if_neg (by omega), if_pos (by omega)] at hQ; exact hQ) | (rw [if_neg (by omega), if_neg (by omega), if_neg (by omega)] at hQ; exact hQ)
    · rw [up2_ne (by omega), up2_ne (by omega), up2_ne (by omega), up2_ne (by omega)] at q
      refine go_if_eq (tgt := 34) dX10_chance_25 rfl (fun c9 => ?_) (fun c9 => ?_)
      · refine go_goto (tgt := 79) dX10_chance_34 rfl ?_
        refine go_ret dX10_chance_79 rfl ⟨rfl, ?_⟩
        rw [rDraw] at hQ
        first | (rw [if_pos (by omega), if_pos (by omega)] at hQ; exact hQ) | (rw [if_pos (by omega), if_neg (by omega)] at hQ; exact hQ) | (rw [if_neg (by omega), if_pos (by omega)] at hQ; exact hQ) | (rw [if_neg (by omega), if_neg (by omega), if_pos (by omega)] at hQ; exact hQ) | (rw [if_neg (by omega), if_neg (by omega), if_neg (by omega)] at hQ; exact hQ)
      · exact absurd c9 (by decide)

/-- what a year of the reference asks of its numbers -/
def RQY (M : inm) (L n U E : Nat) : Prop := RB M L n U ∧ (M 279 2 = (E : Int) ∧ E ≤ 5) ∧ (∀ e, e < E → 1 ≤ M 281 e ∧ M 281 e ≤ 9)
set_option maxHeartbeats 4000000 in
set_option maxRecDepth 100000 in
theorem lp_X10_year {w n : Nat} {Q : Int → Nat → rfm → inm → Prop} (hn : n ≤ 30) (I : Nat → inm → Prop) (hstep : ∀ k M', k < n → I k M' → ∃ u L n1 U E : Nat, (M' 279 33 = (u : Int) ∧ u ≤ 30) ∧ RQY M' L n1 U E ∧ I (k + 1) (rYear (rRem M' u) L E)) (hQ : ∀ M', I n M' → Q (M' 284 25) 303 (PP w) M') : ∀ d k, n < k + d → k ≤ n → ∀ M' : inm, I k M' → Go S0 yX10_year cX10_year 4 2 0 0 (some .int) 14 [(3, vI ((k : Nat) : Int)), (0, vR 279), (1, vI ((n : Nat) : Int))] [] 303 (PP w) M' (fun v n P M => ∃ z, v = some (vI z) ∧ Q z n P M) := by
  intro d
  induction d with
  | zero => intro k h1 h2; exfalso; omega
  | succ d ih =>
    intro k h1 h2 M' hI
    refine go_iload_n 0 dX10_year_14 rfl rfl ?_
    refine go_iload_n 2 dX10_year_15 rfl rfl ?_
    refine go_icmp_ge (tgt := 33) dX10_year_16 rfl (fun c1 => ?_) (fun c1 => ?_)
    · refine go_aload_n 1 dX10_year_33 rfl rfl ?_
      refine go_getR (r := 284) dX10_year_34 lk10_22.get kd_279 (by omega) rfl (pp_279_8 w) ?_
      refine go_bipush dX10_year_37 (by decide) (by decide) ?_
      refine gx_iaload (v := (M' 284 25)) 25 dX10_year_39 kd_284 (by omega) ln_284 (by omega) (by omega) rfl ?_
      refine go_iret dX10_year_40 rfl rfl ⟨_, rfl, ?_⟩
      rw [show k = n by omega] at hI
      exact hQ M' hI
    · obtain ⟨u, L, n1, U, E, hu, ⟨hb, hE, hqu⟩, hI2⟩ := hstep k M' (by omega) hI
      refine go_aload_n 1 dX10_year_19 rfl rfl ?_
      refine go_callVV (av := []) (st := []) (a := 279) (mc2 := 0) (ms2 := 0) dX10_year_20 cw10_249 (by decide) rfl rfl (Nat.le_of_ble_eq_true rfl) rfl rfl kd_279 ⟨_, _, rfl⟩ (by decide) (by omega) (ok_X10_remember (M := M') hu.1 hu.2 ?_)
      refine go_aload_n 1 dX10_year_23 rfl rfl ?_
      refine go_callVV (av := []) (st := []) (a := 279) (mc2 := 0) (ms2 := 0) dX10_year_24 cw10_263 (by decide) rfl rfl (Nat.le_of_ble_eq_true rfl) rfl rfl kd_279 ⟨_, _, rfl⟩ (by decide) (by omega) (ok_X10_passes (M := rRem M' u) (L := L) (E := E) (hb.of (fun i => rRem_out (by omega))).1 ⟨(rRem_out (by omega)).trans hE.1, hE.2⟩ (fun e he => (hb.of (fun i => rRem_out (by omega))).2.2.2.1 e (by omega)) (fun e he => by rw [rRem_out (by omega)]; exact hqu e he) (by rw [rRem_out (by omega)]; have h9 := hb.2.2.2.2.2.1; have h8 := hb.2.2.2.2.2.2.2.2; omega) ?_)
      refine gx_iinc (v := ((k + 1 : Nat) : Int)) (lv' := [(3, vI ((k + 1 : Nat) : Int)), (0, vR 279), (1, vI ((n : Nat) : Int))]) 0 dX10_year_27 rfl (by omega) ⟨by omega, by omega⟩ (by decide) rfl ?_
      refine go_goto (tgt := 14) dX10_year_30 rfl ?_
      refine go_lv [0, 1, 2] rfl ?_
      exact ih (k + 1) (by omega) (by omega) _ hI2

set_option maxHeartbeats 4000000 in
set_option maxRecDepth 100000 in
theorem ok_X10_year_in {w n : Nat} {M : inm} {Q : Int → Nat → rfm → inm → Prop} (hn : 1 ≤ n ∧ n ≤ 30) (h0 : ¬ M 279 0 = 0) (h9 : ¬ 9000 < M 284 25) (I : Nat → inm → Prop) (hstep : ∀ k M', k < n → I k M' → ∃ u L n1 U E : Nat, (M' 279 33 = (u : Int) ∧ u ≤ 30) ∧ RQY M' L n1 U E ∧ I (k + 1) (rYear (rRem M' u) L E)) (hQ : ∀ M', I n M' → Q (M' 284 25) 303 (PP w) M') (hI : I 0 M) : OkI yX10_year cX10_year 4 2 0 0 (some .int) [vR 279, vI ((n : Nat) : Int)] 303 (PP w) M Q := by
  refine OkI.of (by decide +kernel) (by decide +kernel) (Nat.le_of_ble_eq_true rfl) ?_
  refine go_eq (lv' := [(0, vR 279), (1, vI ((n : Nat) : Int))]) rfl rfl rfl rfl rfl ?_
  refine go_aload_n 0 dX10_year_0 rfl rfl ?_
  refine go_iload_n 1 dX10_year_1 rfl rfl ?_
  refine go_callVI (av := [vI ((n : Nat) : Int)]) (st := []) (a := 279) (mc2 := 0) (ms2 := 0) dX10_year_2 cw10_260 (by decide) rfl rfl (Nat.le_of_ble_eq_true rfl) rfl rfl kd_279 ⟨_, _, rfl⟩ (by decide) (by omega) (ok_X10_yearsRefused (fun q => absurd (by omega) q) (fun q1 q2 => absurd q2 h0) (fun q1 q2 q3 => absurd q3 h9) (fun _ _ _ => ?_))
  refine go_istore_n (lv' := [(2, vI 0), (0, vR 279), (1, vI ((n : Nat) : Int))]) dX10_year_5 rfl (by decide) rfl ?_
  refine go_iload_n 0 dX10_year_6 rfl rfl ?_
  refine go_if_eq (tgt := 12) dX10_year_7 rfl (fun c1 => ?_) (fun c1 => ?_)
  · refine go_iconst dX10_year_12 (by decide) ?_
    refine go_istore_n (lv' := [(3, vI 0), (2, vI 0), (0, vR 279), (1, vI ((n : Nat) : Int))]) dX10_year_13 rfl (by decide) rfl ?_
    refine go_lv [0, 2, 3] rfl ?_
    exact lp_X10_year hn.2 I hstep hQ (n + 1) 0 (by omega) (by omega) M hI
  · exact absurd c1 (by decide)

set_option maxHeartbeats 4000000 in
set_option maxRecDepth 100000 in
theorem ok_X10_year_out {w : Nat} {a : Int} {M : inm} {Q : Int → Nat → rfm → inm → Prop} (hk : ¬ ((1 ≤ a ∧ a ≤ 30) ∧ ¬ M 279 0 = 0 ∧ ¬ 9000 < M 284 25)) (ho : ¬ (1 ≤ a ∧ a ≤ 30) → Q (-1000000002) 303 (PP w) M) (hn : (1 ≤ a ∧ a ≤ 30) → M 279 0 = 0 → Q (-1000000003) 303 (PP w) M) (hf : (1 ≤ a ∧ a ≤ 30) → ¬ M 279 0 = 0 → 9000 < M 284 25 → Q (-1000000004) 303 (PP w) M) : OkI yX10_year cX10_year 4 2 0 0 (some .int) [vR 279, vI a] 303 (PP w) M Q := by
  refine OkI.of (by decide +kernel) (by decide +kernel) (Nat.le_of_ble_eq_true rfl) ?_
  refine go_eq (lv' := [(0, vR 279), (1, vI a)]) rfl rfl rfl rfl rfl ?_
  refine go_aload_n 0 dX10_year_0 rfl rfl ?_
  refine go_iload_n 1 dX10_year_1 rfl rfl ?_
  refine go_callVI (av := [vI a]) (st := []) (a := 279) (mc2 := 0) (ms2 := 0) dX10_year_2 cw10_260 (by decide) rfl rfl (Nat.le_of_ble_eq_true rfl) rfl rfl kd_279 ⟨_, _, rfl⟩ (by decide) (by omega) (ok_X10_yearsRefused (fun q => ?_) (fun q1 q2 => ?_) (fun q1 q2 q3 => ?_) (fun q1 q2 q3 => absurd ⟨q1, q2, q3⟩ hk))
  · skip
    refine go_istore_n (lv' := [(2, vI (-1000000002)), (0, vR 279), (1, vI a)]) dX10_year_5 rfl (by decide) rfl ?_
    refine go_iload_n 0 dX10_year_6 rfl rfl ?_
    refine go_if_eq (tgt := 12) dX10_year_7 rfl (fun c1 => ?_) (fun c1 => ?_)
    · exact absurd c1 (by decide)
    · refine go_iload_n 0 dX10_year_10 rfl rfl ?_
      refine go_iret dX10_year_11 rfl rfl ⟨_, rfl, ?_⟩
      first | exact ho (by omega) | exact hn (by omega) (by omega) | exact hf (by omega) (by omega) (by omega)
  · skip
    refine go_istore_n (lv' := [(2, vI (-1000000003)), (0, vR 279), (1, vI a)]) dX10_year_5 rfl (by decide) rfl ?_
    refine go_iload_n 0 dX10_year_6 rfl rfl ?_
    refine go_if_eq (tgt := 12) dX10_year_7 rfl (fun c2 => ?_) (fun c2 => ?_)
    · exact absurd c2 (by decide)
    · refine go_iload_n 0 dX10_year_10 rfl rfl ?_
      refine go_iret dX10_year_11 rfl rfl ⟨_, rfl, ?_⟩
      first | exact ho (by omega) | exact hn (by omega) (by omega) | exact hf (by omega) (by omega) (by omega)
  · skip
    refine go_istore_n (lv' := [(2, vI (-1000000004)), (0, vR 279), (1, vI a)]) dX10_year_5 rfl (by decide) rfl ?_
    refine go_iload_n 0 dX10_year_6 rfl rfl ?_
    refine go_if_eq (tgt := 12) dX10_year_7 rfl (fun c3 => ?_) (fun c3 => ?_)
    · exact absurd c3 (by decide)
    · refine go_iload_n 0 dX10_year_10 rfl rfl ?_
      refine go_iret dX10_year_11 rfl rfl ⟨_, rfl, ?_⟩
      first | exact ho (by omega) | exact hn (by omega) (by omega) | exact hf (by omega) (by omega) (by omega)

set_option maxHeartbeats 4000000 in
set_option maxRecDepth 100000 in
theorem lp_X10_drift {w n : Nat} {Q : Int → Nat → rfm → inm → Prop} (hn : n ≤ 30) (I : Nat → inm → Prop) (hstep : ∀ k M', k < n → I k M' → ∃ u L n1 U E L2 n2 : Nat, (M' 279 33 = (u : Int) ∧ u ≤ 30) ∧ RQY M' L n1 U E ∧ (∀ e, e < E → 0 ≤ M' 280 e ∧ M' 280 e ≤ 9) ∧ (0 ≤ M' 279 9 ∧ M' 279 9 ≤ 2147483647) ∧ RQY (if E = 0 then rRem M' u else rDraw (rRem M' u) E n1 L) L2 n2 (U + 1) E ∧ I (k + 1) (rYear (if E = 0 then rRem M' u else rDraw (rRem M' u) E n1 L) L2 E)) (hQ : ∀ M', I n M' → Q (M' 284 25) 303 (PP w) M') : ∀ d k, n < k + d → k ≤ n → ∀ M' : inm, I k M' → Go S0 yX10_drift cX10_drift 4 4 0 0 (some .int) 14 [(3, vI ((k : Nat) : Int)), (0, vR 279), (1, vI ((n : Nat) : Int))] [] 303 (PP w) M' (fun v n P M => ∃ z, v = some (vI z) ∧ Q z n P M) := by
  intro d
  induction d with
  | zero => intro k h1 h2; exfalso; omega
  | succ d ih =>
    intro k h1 h2 M' hI
    refine go_iload_n 0 dX10_drift_14 rfl rfl ?_
    refine go_iload_n 2 dX10_drift_15 rfl rfl ?_
    refine go_icmp_ge (tgt := 44) dX10_drift_16 rfl (fun c1 => ?_) (fun c1 => ?_)
    · refine go_aload_n 1 dX10_drift_44 rfl rfl ?_
      refine go_getR (r := 284) dX10_drift_45 lk10_22.get kd_279 (by omega) rfl (pp_279_8 w) ?_
      refine go_bipush dX10_drift_48 (by decide) (by decide) ?_
      refine gx_iaload (v := (M' 284 25)) 25 dX10_drift_50 kd_284 (by omega) ln_284 (by omega) (by omega) rfl ?_
      refine go_iret dX10_drift_51 rfl rfl ⟨_, rfl, ?_⟩
      rw [show k = n by omega] at hI
      exact hQ M' hI
    · obtain ⟨u, L, n1, U, E, L2, n2, hu, ⟨hb, hE, hqu⟩, hca, hsd, ⟨hb2, hE2, hqu2⟩, hI2⟩ := hstep k M' (by omega) hI
      refine go_aload_n 1 dX10_drift_19 rfl rfl ?_
      refine go_callVV (av := []) (st := []) (a := 279) (mc2 := 0) (ms2 := 0) dX10_drift_20 cw10_249 (by decide) rfl rfl (Nat.le_of_ble_eq_true rfl) rfl rfl kd_279 ⟨_, _, rfl⟩ (by decide) (by omega) (ok_X10_remember (M := M') hu.1 hu.2 ?_)
      refine go_aload_n 1 dX10_drift_23 rfl rfl ?_
      refine gx_getI (v := ((E : Nat) : Int)) dX10_drift_24 lk10_91.get kd_279 (by omega) rfl (((rRem_out (by omega))).trans hE.1) ?_
      refine go_if_le (tgt := 34) dX10_drift_27 rfl (fun c1 => ?_) (fun c1 => ?_)
      · refine go_m (M' := (if E = 0 then rRem M' u else rDraw (rRem M' u) E n1 L)) ((if_pos (by omega)).symm) ?_
        refine go_aload_n 1 dX10_drift_34 rfl rfl ?_
        refine go_callVV (av := []) (st := []) (a := 279) (mc2 := 0) (ms2 := 0) dX10_drift_35 cw10_263 (by decide) rfl rfl (Nat.le_of_ble_eq_true rfl) rfl rfl kd_279 ⟨_, _, rfl⟩ (by decide) (by omega) (ok_X10_passes (M := (if E = 0 then rRem M' u else rDraw (rRem M' u) E n1 L)) (L := L2) (E := E) hb2.1 hE2 (fun e he => hb2.2.2.2.1 e (by omega)) hqu2 (by have h9 := hb2.2.2.2.2.2.1; have h8 := hb2.2.2.2.2.2.2.2.2; omega) ?_)
        refine gx_iinc (v := ((k + 1 : Nat) : Int)) (lv' := [(3, vI ((k + 1 : Nat) : Int)), (0, vR 279), (1, vI ((n : Nat) : Int))]) 0 dX10_drift_38 rfl (by omega) ⟨by omega, by omega⟩ (by decide) rfl ?_
        refine go_goto (tgt := 14) dX10_drift_41 rfl ?_
        refine go_lv [0, 1, 2] rfl ?_
        exact ih (k + 1) (by omega) (by omega) _ hI2
      · refine go_aload_n 1 dX10_drift_30 rfl rfl ?_
        refine go_callVV (av := []) (st := []) (a := 279) (mc2 := 0) (ms2 := 0) dX10_drift_31 cw10_279 (by decide) rfl rfl (Nat.le_of_ble_eq_true rfl) rfl rfl kd_279 ⟨_, _, rfl⟩ (by decide) (by omega) (ok_X10_chance (M := rRem M' u) (L := L) (n := n1) (U := U) ⟨(rRem_out (by omega)).trans hE.1, by omega, hE.2⟩ (hb.of (fun i => rRem_out (by omega))) (fun e he => by rw [rRem_out (by omega)]; exact hca e he) (by rw [rRem_out (by omega)]; exact hsd) ?_)
        refine go_m (M' := (if E = 0 then rRem M' u else rDraw (rRem M' u) E n1 L)) ((if_neg (by omega)).symm) ?_
        refine go_aload_n 1 dX10_drift_34 rfl rfl ?_
        refine go_callVV (av := []) (st := []) (a := 279) (mc2 := 0) (ms2 := 0) dX10_drift_35 cw10_263 (by decide) rfl rfl (Nat.le_of_ble_eq_true rfl) rfl rfl kd_279 ⟨_, _, rfl⟩ (by decide) (by omega) (ok_X10_passes (M := (if E = 0 then rRem M' u else rDraw (rRem M' u) E n1 L)) (L := L2) (E := E) hb2.1 hE2 (fun e he => hb2.2.2.2.1 e (by omega)) hqu2 (by have h9 := hb2.2.2.2.2.2.1; have h8 := hb2.2.2.2.2.2.2.2.2; omega) ?_)
        refine gx_iinc (v := ((k + 1 : Nat) : Int)) (lv' := [(3, vI ((k + 1 : Nat) : Int)), (0, vR 279), (1, vI ((n : Nat) : Int))]) 0 dX10_drift_38 rfl (by omega) ⟨by omega, by omega⟩ (by decide) rfl ?_
        refine go_goto (tgt := 14) dX10_drift_41 rfl ?_
        refine go_lv [0, 1, 2] rfl ?_
        exact ih (k + 1) (by omega) (by omega) _ hI2

set_option maxHeartbeats 4000000 in
set_option maxRecDepth 100000 in
theorem ok_X10_drift_in {w n : Nat} {M : inm} {Q : Int → Nat → rfm → inm → Prop} (hn : 1 ≤ n ∧ n ≤ 30) (h0 : ¬ M 279 0 = 0) (h9 : ¬ 9000 < M 284 25) (I : Nat → inm → Prop) (hstep : ∀ k M', k < n → I k M' → ∃ u L n1 U E L2 n2 : Nat, (M' 279 33 = (u : Int) ∧ u ≤ 30) ∧ RQY M' L n1 U E ∧ (∀ e, e < E → 0 ≤ M' 280 e ∧ M' 280 e ≤ 9) ∧ (0 ≤ M' 279 9 ∧ M' 279 9 ≤ 2147483647) ∧ RQY (if E = 0 then rRem M' u else rDraw (rRem M' u) E n1 L) L2 n2 (U + 1) E ∧ I (k + 1) (rYear (if E = 0 then rRem M' u else rDraw (rRem M' u) E n1 L) L2 E)) (hQ : ∀ M', I n M' → Q (M' 284 25) 303 (PP w) M') (hI : I 0 M) : OkI yX10_drift cX10_drift 4 4 0 0 (some .int) [vR 279, vI ((n : Nat) : Int)] 303 (PP w) M Q := by
  refine OkI.of (by decide +kernel) (by decide +kernel) (Nat.le_of_ble_eq_true rfl) ?_
  refine go_eq (lv' := [(0, vR 279), (1, vI ((n : Nat) : Int))]) rfl rfl rfl rfl rfl ?_
  refine go_aload_n 0 dX10_drift_0 rfl rfl ?_
  refine go_iload_n 1 dX10_drift_1 rfl rfl ?_
  refine go_callVI (av := [vI ((n : Nat) : Int)]) (st := []) (a := 279) (mc2 := 0) (ms2 := 0) dX10_drift_2 cw10_260 (by decide) rfl rfl (Nat.le_of_ble_eq_true rfl) rfl rfl kd_279 ⟨_, _, rfl⟩ (by decide) (by omega) (ok_X10_yearsRefused (fun q => absurd (by omega) q) (fun q1 q2 => absurd q2 h0) (fun q1 q2 q3 => absurd q3 h9) (fun _ _ _ => ?_))
  refine go_istore_n (lv' := [(2, vI 0), (0, vR 279), (1, vI ((n : Nat) : Int))]) dX10_drift_5 rfl (by decide) rfl ?_
  refine go_iload_n 0 dX10_drift_6 rfl rfl ?_
  refine go_if_eq (tgt := 12) dX10_drift_7 rfl (fun c1 => ?_) (fun c1 => ?_)
  · refine go_iconst dX10_drift_12 (by decide) ?_
    refine go_istore_n (lv' := [(3, vI 0), (2, vI 0), (0, vR 279), (1, vI ((n : Nat) : Int))]) dX10_drift_13 rfl (by decide) rfl ?_
    refine go_lv [0, 2, 3] rfl ?_
    exact lp_X10_drift hn.2 I hstep hQ (n + 1) 0 (by omega) (by omega) M hI
  · exact absurd c1 (by decide)

set_option maxHeartbeats 4000000 in
set_option maxRecDepth 100000 in
theorem ok_X10_drift_out {w : Nat} {a : Int} {M : inm} {Q : Int → Nat → rfm → inm → Prop} (hk : ¬ ((1 ≤ a ∧ a ≤ 30) ∧ ¬ M 279 0 = 0 ∧ ¬ 9000 < M 284 25)) (ho : ¬ (1 ≤ a ∧ a ≤ 30) → Q (-1000000002) 303 (PP w) M) (hn : (1 ≤ a ∧ a ≤ 30) → M 279 0 = 0 → Q (-1000000003) 303 (PP w) M) (hf : (1 ≤ a ∧ a ≤ 30) → ¬ M 279 0 = 0 → 9000 < M 284 25 → Q (-1000000004) 303 (PP w) M) : OkI yX10_drift cX10_drift 4 4 0 0 (some .int) [vR 279, vI a] 303 (PP w) M Q := by
  refine OkI.of (by decide +kernel) (by decide +kernel) (Nat.le_of_ble_eq_true rfl) ?_
  refine go_eq (lv' := [(0, vR 279), (1, vI a)]) rfl rfl rfl rfl rfl ?_
  refine go_aload_n 0 dX10_drift_0 rfl rfl ?_
  refine go_iload_n 1 dX10_drift_1 rfl rfl ?_
  refine go_callVI (av := [vI a]) (st := []) (a := 279) (mc2 := 0) (ms2 := 0) dX10_drift_2 cw10_260 (by decide) rfl rfl (Nat.le_of_ble_eq_true rfl) rfl rfl kd_279 ⟨_, _, rfl⟩ (by decide) (by omega) (ok_X10_yearsRefused (fun q => ?_) (fun q1 q2 => ?_) (fun q1 q2 q3 => ?_) (fun q1 q2 q3 => absurd ⟨q1, q2, q3⟩ hk))
  · skip
    refine go_istore_n (lv' := [(2, vI (-1000000002)), (0, vR 279), (1, vI a)]) dX10_drift_5 rfl (by decide) rfl ?_
    refine go_iload_n 0 dX10_drift_6 rfl rfl ?_
    refine go_if_eq (tgt := 12) dX10_drift_7 rfl (fun c1 => ?_) (fun c1 => ?_)
    · exact absurd c1 (by decide)
    · refine go_iload_n 0 dX10_drift_10 rfl rfl ?_
      refine go_iret dX10_drift_11 rfl rfl ⟨_, rfl, ?_⟩
      first | exact ho (by omega) | exact hn (by omega) (by omega) | exact hf (by omega) (by omega) (by omega)
  · skip
    refine go_istore_n (lv' := [(2, vI (-1000000003)), (0, vR 279), (1, vI a)]) dX10_drift_5 rfl (by decide) rfl ?_
    refine go_iload_n 0 dX10_drift_6 rfl rfl ?_
    refine go_if_eq (tgt := 12) dX10_drift_7 rfl (fun c2 => ?_) (fun c2 => ?_)
    · exact absurd c2 (by decide)
    · refine go_iload_n 0 dX10_drift_10 rfl rfl ?_
      refine go_iret dX10_drift_11 rfl rfl ⟨_, rfl, ?_⟩
      first | exact ho (by omega) | exact hn (by omega) (by omega) | exact hf (by omega) (by omega) (by omega)
  · skip
    refine go_istore_n (lv' := [(2, vI (-1000000004)), (0, vR 279), (1, vI a)]) dX10_drift_5 rfl (by decide) rfl ?_
    refine go_iload_n 0 dX10_drift_6 rfl rfl ?_
    refine go_if_eq (tgt := 12) dX10_drift_7 rfl (fun c3 => ?_) (fun c3 => ?_)
    · exact absurd c3 (by decide)
    · refine go_iload_n 0 dX10_drift_10 rfl rfl ?_
      refine go_iret dX10_drift_11 rfl rfl ⟨_, rfl, ?_⟩
      first | exact ho (by omega) | exact hn (by omega) (by omega) | exact hf (by omega) (by omega) (by omega)

