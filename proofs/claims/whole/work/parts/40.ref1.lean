/-! ===== the reference: what is read off it ===== -/
theorem lcm_lt {a b : Int} : lcm a b < 0 ↔ a < b := by
  unfold lcm
  split
  · omega
  · split <;> omega
theorem lcm_gt {a b : Int} : 0 < lcm a b ↔ b < a := by
  unfold lcm
  split
  · omega
  · split <;> omega
def Lay10 (M : inm) (L : Nat) : Prop := M 284 0 = (L : Int) ∧ L ≤ 12 ∧ (∀ j, j < L → 0 ≤ M 284 (j + 13) ∧ M 284 (j + 13) ≤ 20) ∧ ∀ j, j < L → 0 ≤ M 284 (j + 1) ∧ M 284 (j + 1) ≤ 4
def Tys10 (M : inm) (T : Nat) (lt : Nat → Nat) : Prop := M 279 5 = (T : Int) ∧ T ≤ 6 ∧ (∀ t, t < T → M 282 t = (lt t : Int) ∧ lt t ≤ 8) ∧ ∀ t, t < T → ∀ k, k < lt t → 0 ≤ M 283 (8 * t + k) ∧ M 283 (8 * t + k) ≤ 4
theorem has_eq : ∀ s, s < 64 → ∀ t, t < 6 → ((s / 2 ^ t) &&& 1 = 1 ↔ inS s t = true) := by decide +kernel
set_option maxHeartbeats 4000000 in
set_option maxRecDepth 100000 in
theorem ok_X10_in {w : Nat} {x lo hi : Int} {M : inm} {Q : Int → Nat → rfm → inm → Prop} (h1 : lo ≤ x → x ≤ hi → Q 1 303 (PP w) M) (h0 : ¬ (lo ≤ x ∧ x ≤ hi) → Q 0 303 (PP w) M) : OkI yX10_in cX10_in 6 0 0 0 (some .boolean) [vL x, vL lo, vL hi] 303 (PP w) M Q := by
  refine OkI.of (by decide +kernel) (by decide +kernel) (Nat.le_of_ble_eq_true rfl) ?_
  refine go_eq (lv' := [(0, vL x), (2, vL lo), (4, vL hi)]) rfl rfl rfl rfl rfl ?_
  refine go_lload_n 0 dX10_in_0 rfl rfl ?_
  refine go_lload_n 1 dX10_in_1 rfl rfl ?_
  refine go_lcmp dX10_in_2 ?_
  refine go_if_lt (tgt := 17) dX10_in_3 rfl (fun c1 => ?_) (fun c1 => ?_)
  · refine go_iconst dX10_in_17 (by decide) ?_
    refine go_iret dX10_in_18 rfl rfl ⟨_, rfl, ?_⟩
    simp only [lcm_lt, lcm_gt] at *
    first | exact h1 (by omega) (by omega) | exact h0 (by omega)
  · refine go_lload_n 0 dX10_in_6 rfl rfl ?_
    refine go_lload 2 dX10_in_7 rfl ?_
    refine go_lcmp dX10_in_9 ?_
    refine go_if_gt (tgt := 17) dX10_in_10 rfl (fun c2 => ?_) (fun c2 => ?_)
    · refine go_iconst dX10_in_17 (by decide) ?_
      refine go_iret dX10_in_18 rfl rfl ⟨_, rfl, ?_⟩
      simp only [lcm_lt, lcm_gt] at *
      first | exact h1 (by omega) (by omega) | exact h0 (by omega)
    · refine go_iconst dX10_in_13 (by decide) ?_
      refine go_goto (tgt := 18) dX10_in_14 rfl ?_
      refine go_iret dX10_in_18 rfl rfl ⟨_, rfl, ?_⟩
      simp only [lcm_lt, lcm_gt] at *
      first | exact h1 (by omega) (by omega) | exact h0 (by omega)

set_option maxHeartbeats 4000000 in
set_option maxRecDepth 100000 in
theorem ok_X10_has {w s k : Nat} {M : inm} {Q : Int → Nat → rfm → inm → Prop} (hs : s < 64) (hk : k < 6) (h1 : inS s k = true → Q 1 303 (PP w) M) (h0 : inS s k = false → Q 0 303 (PP w) M) : OkI yX10_has cX10_has 2 0 0 0 (some .boolean) [vI ((s : Nat) : Int), vI ((k : Nat) : Int)] 303 (PP w) M Q := by
  refine OkI.of (by decide +kernel) (by decide +kernel) (Nat.le_of_ble_eq_true rfl) ?_
  refine go_eq (lv' := [(0, vI ((s : Nat) : Int)), (1, vI ((k : Nat) : Int))]) rfl rfl rfl rfl rfl ?_
  refine go_iload_n 0 dX10_has_0 rfl rfl ?_
  refine go_iload_n 1 dX10_has_1 rfl rfl ?_
  refine gx_ishr (a := s) (b := k) dX10_has_2 (by omega) (by omega) (by omega) ?_
  refine go_iconst dX10_has_3 (by decide) ?_
  refine gx_iand (a := (s / 2 ^ k)) (b := 1) dX10_has_4 (by omega) (by omega) ?_
  refine go_iconst dX10_has_5 (by decide) ?_
  refine go_icmp_ne (tgt := 13) dX10_has_6 rfl (fun c1 => ?_) (fun c1 => ?_)
  · refine go_iconst dX10_has_13 (by decide) ?_
    refine go_iret dX10_has_14 rfl rfl ⟨_, rfl, ?_⟩
    first | exact h1 ((has_eq s hs k hk).mp (by omega)) | exact h0 (by rw [← Bool.not_eq_true]; intro q; have := (has_eq s hs k hk).mpr q; omega)
  · refine go_iconst dX10_has_9 (by decide) ?_
    refine go_goto (tgt := 14) dX10_has_10 rfl ?_
    refine go_iret dX10_has_14 rfl rfl ⟨_, rfl, ?_⟩
    first | exact h1 ((has_eq s hs k hk).mp (by omega)) | exact h0 (by rw [← Bool.not_eq_true]; intro q; have := (has_eq s hs k hk).mpr q; omega)

set_option maxHeartbeats 4000000 in
set_option maxRecDepth 100000 in
theorem ok_X10_isLayer {w L : Nat} {k : Int} {M : inm} {Q : Int → Nat → rfm → inm → Prop} (hL : M 284 0 = (L : Int)) (h12 : L ≤ 12) (h1 : 0 ≤ k → k < (L : Int) → Q 1 303 (PP w) M) (h0 : ¬ (0 ≤ k ∧ k < (L : Int)) → Q 0 303 (PP w) M) : OkI yX10_isLayer cX10_isLayer 2 1 0 0 (some .boolean) [vR 279, vI k] 303 (PP w) M Q := by
  refine OkI.of (by decide +kernel) (by decide +kernel) (Nat.le_of_ble_eq_true rfl) ?_
  refine go_eq (lv' := [(0, vR 279), (1, vI k)]) rfl rfl rfl rfl rfl ?_
  refine go_iload_n 1 dX10_isLayer_0 rfl rfl ?_
  refine go_i2l dX10_isLayer_1 ?_
  refine go_lconst (z := 0) dX10_isLayer_2 (by decide) (by decide) ?_
  refine go_aload_n 0 dX10_isLayer_3 rfl rfl ?_
  refine go_getR (r := 284) dX10_isLayer_4 lk10_22.get kd_279 (by omega) rfl (pp_279_8 w) ?_
  refine go_iconst dX10_isLayer_7 (by decide) ?_
  refine gx_iaload (v := ((L : Nat) : Int)) 0 dX10_isLayer_8 kd_284 (by omega) ln_284 (by omega) (by omega) hL ?_
  refine go_iconst dX10_isLayer_9 (by decide) ?_
  refine gx_isub (v := (((L : Nat) : Int) - 1)) dX10_isLayer_10 rfl ⟨by omega, by omega⟩ ?_
  refine go_i2l dX10_isLayer_11 ?_
  refine go_callSI (av := [vL k, vL 0, vL (((L : Nat) : Int) - 1)]) (st := []) (mc2 := 0) (ms2 := 0) dX10_isLayer_12 cw10_87 (by decide) rfl rfl (Nat.le_of_ble_eq_true rfl) rfl rfl (ok_X10_in (fun i1 i2 => ?_) (fun i3 => ?_))
  · skip
    refine go_iret dX10_isLayer_15 rfl rfl ⟨_, rfl, ?_⟩
    first | exact h1 (by omega) (by omega) | exact h0 (by omega)
  · skip
    refine go_iret dX10_isLayer_15 rfl rfl ⟨_, rfl, ?_⟩
    first | exact h1 (by omega) (by omega) | exact h0 (by omega)

set_option maxHeartbeats 4000000 in
set_option maxRecDepth 100000 in
theorem ok_X10_isExecutor {w E : Nat} {k : Int} {M : inm} {Q : Int → Nat → rfm → inm → Prop} (hE : M 279 2 = (E : Int) ∧ E ≤ 5) (h1 : 0 ≤ k → k < (E : Int) → Q 1 303 (PP w) M) (h0 : ¬ (0 ≤ k ∧ k < (E : Int)) → Q 0 303 (PP w) M) : OkI yX10_isExecutor cX10_isExecutor 2 1 0 0 (some .boolean) [vR 279, vI k] 303 (PP w) M Q := by
  refine OkI.of (by decide +kernel) (by decide +kernel) (Nat.le_of_ble_eq_true rfl) ?_
  refine go_eq (lv' := [(0, vR 279), (1, vI k)]) rfl rfl rfl rfl rfl ?_
  refine go_iload_n 1 dX10_isExecutor_0 rfl rfl ?_
  refine go_i2l dX10_isExecutor_1 ?_
  refine go_lconst (z := 0) dX10_isExecutor_2 (by decide) (by decide) ?_
  refine go_aload_n 0 dX10_isExecutor_3 rfl rfl ?_
  refine gx_getI (v := ((E : Nat) : Int)) dX10_isExecutor_4 lk10_91.get kd_279 (by omega) rfl hE.1 ?_
  refine go_iconst dX10_isExecutor_7 (by decide) ?_
  refine gx_isub (v := (((E : Nat) : Int) - 1)) dX10_isExecutor_8 rfl ⟨by omega, by omega⟩ ?_
  refine go_i2l dX10_isExecutor_9 ?_
  refine go_callSI (av := [vL k, vL 0, vL (((E : Nat) : Int) - 1)]) (st := []) (mc2 := 0) (ms2 := 0) dX10_isExecutor_10 cw10_87 (by decide) rfl rfl (Nat.le_of_ble_eq_true rfl) rfl rfl (ok_X10_in (fun i1 i2 => ?_) (fun i3 => ?_))
  · skip
    refine go_iret dX10_isExecutor_13 rfl rfl ⟨_, rfl, ?_⟩
    first | exact h1 (by omega) (by omega) | exact h0 (by omega)
  · skip
    refine go_iret dX10_isExecutor_13 rfl rfl ⟨_, rfl, ?_⟩
    first | exact h1 (by omega) (by omega) | exact h0 (by omega)

set_option maxHeartbeats 4000000 in
set_option maxRecDepth 100000 in
theorem ok_X10_worthBy {w : Nat} {c x : Int} {M : inm} {Q : Int → Nat → rfm → inm → Prop} (hx : 0 ≤ x ∧ x ≤ 20) (hQ : Q (worth c x) 303 (PP w) M) : OkI yX10_worthBy cX10_worthBy 2 0 0 0 (some .int) [vI c, vI x] 303 (PP w) M Q := by
  refine OkI.of (by decide +kernel) (by decide +kernel) (Nat.le_of_ble_eq_true rfl) ?_
  refine go_eq (lv' := [(0, vI c), (1, vI x)]) rfl rfl rfl rfl rfl ?_
  refine go_iload_n 0 dX10_worthBy_0 rfl rfl ?_
  refine go_iconst dX10_worthBy_1 (by decide) ?_
  refine go_icmp_ne (tgt := 11) dX10_worthBy_2 rfl (fun c1 => ?_) (fun c1 => ?_)
  · refine go_iload_n 0 dX10_worthBy_11 rfl rfl ?_
    refine go_iconst dX10_worthBy_12 (by decide) ?_
    refine go_icmp_ne (tgt := 22) dX10_worthBy_13 rfl (fun c2 => ?_) (fun c2 => ?_)
    · refine go_iload_n 0 dX10_worthBy_22 rfl rfl ?_
      refine go_iconst dX10_worthBy_23 (by decide) ?_
      refine go_icmp_ne (tgt := 31) dX10_worthBy_24 rfl (fun c3 => ?_) (fun c3 => ?_)
      · refine go_iload_n 1 dX10_worthBy_31 rfl rfl ?_
        refine go_iret dX10_worthBy_32 rfl rfl ⟨_, rfl, ?_⟩
        rw [worth] at hQ
        first | (rw [if_pos (by omega)] at hQ; exact hQ) | (rw [if_neg (by omega), if_pos (by omega)] at hQ; exact hQ) | (rw [if_neg (by omega), if_neg (by omega)] at hQ; exact hQ) | (rw [if_neg (by omega), if_neg (by omega), if_pos (by omega)] at hQ; exact hQ) | (rw [if_neg (by omega), if_neg (by omega), if_neg (by omega)] at hQ; exact hQ)
      · refine go_iconst dX10_worthBy_27 (by decide) ?_
        refine go_goto (tgt := 32) dX10_worthBy_28 rfl ?_
        refine go_iret dX10_worthBy_32 rfl rfl ⟨_, rfl, ?_⟩
        rw [worth] at hQ
        first | (rw [if_pos (by omega)] at hQ; exact hQ) | (rw [if_neg (by omega), if_pos (by omega)] at hQ; exact hQ) | (rw [if_neg (by omega), if_neg (by omega)] at hQ; exact hQ) | (rw [if_neg (by omega), if_neg (by omega), if_pos (by omega)] at hQ; exact hQ) | (rw [if_neg (by omega), if_neg (by omega), if_neg (by omega)] at hQ; exact hQ)
    · refine go_iconst dX10_worthBy_16 (by decide) ?_
      refine go_iload_n 1 dX10_worthBy_17 rfl rfl ?_
      refine gx_imul (v := (2 * x)) dX10_worthBy_18 rfl ⟨by omega, by omega⟩ ?_
      refine go_goto (tgt := 32) dX10_worthBy_19 rfl ?_
      refine go_iret dX10_worthBy_32 rfl rfl ⟨_, rfl, ?_⟩
      rw [worth] at hQ
      first | (rw [if_pos (by omega)] at hQ; exact hQ) | (rw [if_neg (by omega), if_pos (by omega)] at hQ; exact hQ) | (rw [if_neg (by omega), if_neg (by omega)] at hQ; exact hQ) | (rw [if_neg (by omega), if_neg (by omega), if_pos (by omega)] at hQ; exact hQ) | (rw [if_neg (by omega), if_neg (by omega), if_neg (by omega)] at hQ; exact hQ)
  · refine go_iload_n 1 dX10_worthBy_5 rfl rfl ?_
    refine go_iconst dX10_worthBy_6 (by decide) ?_
    refine gx_idiv (v := (x / 2)) dX10_worthBy_7 rfl (by omega) (by omega) ?_
    refine go_goto (tgt := 32) dX10_worthBy_8 rfl ?_
    refine go_iret dX10_worthBy_32 rfl rfl ⟨_, rfl, ?_⟩
    rw [worth] at hQ
    first | (rw [if_pos (by omega)] at hQ; exact hQ) | (rw [if_neg (by omega), if_pos (by omega)] at hQ; exact hQ) | (rw [if_neg (by omega), if_neg (by omega)] at hQ; exact hQ) | (rw [if_neg (by omega), if_neg (by omega), if_pos (by omega)] at hQ; exact hQ) | (rw [if_neg (by omega), if_neg (by omega), if_neg (by omega)] at hQ; exact hQ)

set_option maxHeartbeats 4000000 in
set_option maxRecDepth 100000 in
theorem ok_X10_stingBy {w : Nat} {c x : Int} {M : inm} {Q : Int → Nat → rfm → inm → Prop} (hx : 0 ≤ x ∧ x ≤ 20) (hQ : Q (sting c x) 303 (PP w) M) : OkI yX10_stingBy cX10_stingBy 2 0 0 0 (some .int) [vI c, vI x] 303 (PP w) M Q := by
  refine OkI.of (by decide +kernel) (by decide +kernel) (Nat.le_of_ble_eq_true rfl) ?_
  refine go_eq (lv' := [(0, vI c), (1, vI x)]) rfl rfl rfl rfl rfl ?_
  refine go_iload_n 0 dX10_stingBy_0 rfl rfl ?_
  refine go_iconst dX10_stingBy_1 (by decide) ?_
  refine go_icmp_ne (tgt := 11) dX10_stingBy_2 rfl (fun c1 => ?_) (fun c1 => ?_)
  · refine go_iload_n 0 dX10_stingBy_11 rfl rfl ?_
    refine go_iconst dX10_stingBy_12 (by decide) ?_
    refine go_icmp_ne (tgt := 20) dX10_stingBy_13 rfl (fun c2 => ?_) (fun c2 => ?_)
    · refine go_iload_n 1 dX10_stingBy_20 rfl rfl ?_
      refine go_iret dX10_stingBy_21 rfl rfl ⟨_, rfl, ?_⟩
      rw [sting] at hQ
      first | (rw [if_pos (by omega)] at hQ; exact hQ) | (rw [if_neg (by omega), if_pos (by omega)] at hQ; exact hQ) | (rw [if_neg (by omega), if_neg (by omega)] at hQ; exact hQ) | (rw [if_neg (by omega), if_neg (by omega), if_pos (by omega)] at hQ; exact hQ) | (rw [if_neg (by omega), if_neg (by omega), if_neg (by omega)] at hQ; exact hQ)
    · refine go_iconst dX10_stingBy_16 (by decide) ?_
      refine go_goto (tgt := 21) dX10_stingBy_17 rfl ?_
      refine go_iret dX10_stingBy_21 rfl rfl ⟨_, rfl, ?_⟩
      rw [sting] at hQ
      first | (rw [if_pos (by omega)] at hQ; exact hQ) | (rw [if_neg (by omega), if_pos (by omega)] at hQ; exact hQ) | (rw [if_neg (by omega), if_neg (by omega)] at hQ; exact hQ) | (rw [if_neg (by omega), if_neg (by omega), if_pos (by omega)] at hQ; exact hQ) | (rw [if_neg (by omega), if_neg (by omega), if_neg (by omega)] at hQ; exact hQ)
  · refine go_iconst dX10_stingBy_5 (by decide) ?_
    refine go_iload_n 1 dX10_stingBy_6 rfl rfl ?_
    refine gx_imul (v := (2 * x)) dX10_stingBy_7 rfl ⟨by omega, by omega⟩ ?_
    refine go_goto (tgt := 21) dX10_stingBy_8 rfl ?_
    refine go_iret dX10_stingBy_21 rfl rfl ⟨_, rfl, ?_⟩
    rw [sting] at hQ
    first | (rw [if_pos (by omega)] at hQ; exact hQ) | (rw [if_neg (by omega), if_pos (by omega)] at hQ; exact hQ) | (rw [if_neg (by omega), if_neg (by omega)] at hQ; exact hQ) | (rw [if_neg (by omega), if_neg (by omega), if_pos (by omega)] at hQ; exact hQ) | (rw [if_neg (by omega), if_neg (by omega), if_neg (by omega)] at hQ; exact hQ)

set_option maxHeartbeats 4000000 in
set_option maxRecDepth 100000 in
theorem ok_X10_worthOf {w k : Nat} {M : inm} {Q : Int → Nat → rfm → inm → Prop} (hk : k < 12) (ht : 0 ≤ M 284 (k + 13) ∧ M 284 (k + 13) ≤ 20) (hQ : Q (worth (M 284 (k + 1)) (M 284 (k + 13))) 303 (PP w) M) : OkI yX10_worthOf cX10_worthOf 2 1 0 0 (some .int) [vR 279, vI ((k : Nat) : Int)] 303 (PP w) M Q := by
  refine OkI.of (by decide +kernel) (by decide +kernel) (Nat.le_of_ble_eq_true rfl) ?_
  refine go_eq (lv' := [(0, vR 279), (1, vI ((k : Nat) : Int))]) rfl rfl rfl rfl rfl ?_
  refine go_aload_n 0 dX10_worthOf_0 rfl rfl ?_
  refine go_getR (r := 284) dX10_worthOf_1 lk10_22.get kd_279 (by omega) rfl (pp_279_8 w) ?_
  refine go_iconst dX10_worthOf_4 (by decide) ?_
  refine go_iload_n 1 dX10_worthOf_5 rfl rfl ?_
  refine gx_iadd (v := ((k + 1 : Nat) : Int)) dX10_worthOf_6 (by omega) ⟨by omega, by omega⟩ ?_
  refine gx_iaload (v := (M 284 (k + 1))) (k + 1) dX10_worthOf_7 kd_284 (by omega) ln_284 rfl (by omega) rfl ?_
  refine go_aload_n 0 dX10_worthOf_8 rfl rfl ?_
  refine go_getR (r := 284) dX10_worthOf_9 lk10_22.get kd_279 (by omega) rfl (pp_279_8 w) ?_
  refine go_bipush dX10_worthOf_12 (by decide) (by decide) ?_
  refine go_iload_n 1 dX10_worthOf_14 rfl rfl ?_
  refine gx_iadd (v := ((k + 13 : Nat) : Int)) dX10_worthOf_15 (by omega) ⟨by omega, by omega⟩ ?_
  refine gx_iaload (v := (M 284 (k + 13))) (k + 13) dX10_worthOf_16 kd_284 (by omega) ln_284 rfl (by omega) rfl ?_
  refine go_callSI (av := [vI (M 284 (k + 1)), vI (M 284 (k + 13))]) (st := []) (mc2 := 0) (ms2 := 0) dX10_worthOf_17 cw10_182 (by decide) rfl rfl (Nat.le_of_ble_eq_true rfl) rfl rfl (ok_X10_worthBy ht ?_)
  refine go_iret dX10_worthOf_20 rfl rfl ⟨_, rfl, ?_⟩
  exact hQ

set_option maxHeartbeats 4000000 in
set_option maxRecDepth 100000 in
theorem ok_X10_stingOf {w k : Nat} {M : inm} {Q : Int → Nat → rfm → inm → Prop} (hk : k < 12) (ht : 0 ≤ M 284 (k + 13) ∧ M 284 (k + 13) ≤ 20) (hQ : Q (sting (M 284 (k + 1)) (M 284 (k + 13))) 303 (PP w) M) : OkI yX10_stingOf cX10_stingOf 2 1 0 0 (some .int) [vR 279, vI ((k : Nat) : Int)] 303 (PP w) M Q := by
  refine OkI.of (by decide +kernel) (by decide +kernel) (Nat.le_of_ble_eq_true rfl) ?_
  refine go_eq (lv' := [(0, vR 279), (1, vI ((k : Nat) : Int))]) rfl rfl rfl rfl rfl ?_
  refine go_aload_n 0 dX10_stingOf_0 rfl rfl ?_
  refine go_getR (r := 284) dX10_stingOf_1 lk10_22.get kd_279 (by omega) rfl (pp_279_8 w) ?_
  refine go_iconst dX10_stingOf_4 (by decide) ?_
  refine go_iload_n 1 dX10_stingOf_5 rfl rfl ?_
  refine gx_iadd (v := ((k + 1 : Nat) : Int)) dX10_stingOf_6 (by omega) ⟨by omega, by omega⟩ ?_
  refine gx_iaload (v := (M 284 (k + 1))) (k + 1) dX10_stingOf_7 kd_284 (by omega) ln_284 rfl (by omega) rfl ?_
  refine go_aload_n 0 dX10_stingOf_8 rfl rfl ?_
  refine go_getR (r := 284) dX10_stingOf_9 lk10_22.get kd_279 (by omega) rfl (pp_279_8 w) ?_
  refine go_bipush dX10_stingOf_12 (by decide) (by decide) ?_
  refine go_iload_n 1 dX10_stingOf_14 rfl rfl ?_
  refine gx_iadd (v := ((k + 13 : Nat) : Int)) dX10_stingOf_15 (by omega) ⟨by omega, by omega⟩ ?_
  refine gx_iaload (v := (M 284 (k + 13))) (k + 13) dX10_stingOf_16 kd_284 (by omega) ln_284 rfl (by omega) rfl ?_
  refine go_callSI (av := [vI (M 284 (k + 1)), vI (M 284 (k + 13))]) (st := []) (mc2 := 0) (ms2 := 0) dX10_stingOf_17 cw10_185 (by decide) rfl rfl (Nat.le_of_ble_eq_true rfl) rfl rfl (ok_X10_stingBy ht ?_)
  refine go_iret dX10_stingOf_20 rfl rfl ⟨_, rfl, ?_⟩
  exact hQ

set_option maxHeartbeats 4000000 in
set_option maxRecDepth 100000 in
theorem lp_X10_allThick {w L : Nat} {M : inm} {Q : Int → Nat → rfm → inm → Prop} (hL : Lay10 M L) (hQ : Q (sumTo (fun j => M 284 (j + 13)) L) 303 (PP w) M) : ∀ (d k : Nat), L < k + d → k ≤ L → Go S0 yX10_allThick cX10_allThick 3 0 0 0 (some .int) 4 [(2, vI ((k : Nat) : Int)), (1, vI (sumTo (fun j => M 284 (j + 13)) k)), (0, vR 279)] [] 303 (PP w) M (fun v n P M => ∃ z, v = some (vI z) ∧ Q z n P M) := by
  have hL12 := hL.2.1
  intro d
  induction d with
  | zero => intro k h1 h2; exfalso; omega
  | succ d ih =>
    intro k h1 h2
    have hs := sumTo_in (f := (fun j => M 284 (j + 13))) (b := 20) k (fun j hj => hL.2.2.1 j (by omega))
    refine go_iload_n 0 dX10_allThick_4 rfl rfl ?_
    refine go_aload_n 2 dX10_allThick_5 rfl rfl ?_
    refine go_getR (r := 284) dX10_allThick_6 lk10_22.get kd_279 (by omega) rfl (pp_279_8 w) ?_
    refine go_iconst dX10_allThick_9 (by decide) ?_
    refine gx_iaload (v := ((L : Nat) : Int)) 0 dX10_allThick_10 kd_284 (by omega) ln_284 (by omega) (by omega) hL.1 ?_
    refine go_icmp_ge (tgt := 32) dX10_allThick_11 rfl (fun c1 => ?_) (fun c1 => ?_)
    · refine go_iload_n 1 dX10_allThick_32 rfl rfl ?_
      refine go_iret dX10_allThick_33 rfl rfl ⟨_, rfl, ?_⟩
      rw [show k = L by omega]
      exact hQ
    · refine go_iload_n 1 dX10_allThick_14 rfl rfl ?_
      refine go_aload_n 2 dX10_allThick_15 rfl rfl ?_
      refine go_getR (r := 284) dX10_allThick_16 lk10_22.get kd_279 (by omega) rfl (pp_279_8 w) ?_
      refine go_bipush dX10_allThick_19 (by decide) (by decide) ?_
      refine go_iload_n 0 dX10_allThick_21 rfl rfl ?_
      refine gx_iadd (v := ((k + 13 : Nat) : Int)) dX10_allThick_22 (by omega) ⟨by omega, by omega⟩ ?_
      have f2 := hL.2.2.1 k (by omega)
      refine gx_iaload (v := (M 284 (k + 13))) (k + 13) dX10_allThick_23 kd_284 (by omega) ln_284 rfl (by omega) rfl ?_
      refine gx_iadd (v := ((sumTo (fun j => M 284 (j + 13)) k) + (M 284 (k + 13)))) dX10_allThick_24 rfl ⟨by omega, by omega⟩ ?_
      refine go_istore_n (lv' := [(1, vI ((sumTo (fun j => M 284 (j + 13)) k) + (M 284 (k + 13)))), (2, vI ((k : Nat) : Int)), (0, vR 279)]) dX10_allThick_25 rfl (by decide) rfl ?_
      refine gx_iinc (v := ((k + 1 : Nat) : Int)) (lv' := [(2, vI ((k + 1 : Nat) : Int)), (1, vI ((sumTo (fun j => M 284 (j + 13)) k) + (M 284 (k + 13)))), (0, vR 279)]) 1 dX10_allThick_26 rfl (by omega) ⟨by omega, by omega⟩ (by decide) rfl ?_
      refine go_goto (tgt := 4) dX10_allThick_29 rfl ?_
      have e3 : ((sumTo (fun j => M 284 (j + 13)) k) + (M 284 (k + 13))) = (sumTo (fun j => M 284 (j + 13)) (k + 1)) := by rfl
      rw [e3]
      exact ih (k + 1) (by omega) (by omega)

set_option maxHeartbeats 4000000 in
set_option maxRecDepth 100000 in
theorem ok_X10_allThick {w L : Nat} {M : inm} {Q : Int → Nat → rfm → inm → Prop} (hL : Lay10 M L) (hQ : Q (sumTo (fun j => M 284 (j + 13)) L) 303 (PP w) M) : OkI yX10_allThick cX10_allThick 3 0 0 0 (some .int) [vR 279] 303 (PP w) M Q := by
  refine OkI.of (by decide +kernel) (by decide +kernel) (Nat.le_of_ble_eq_true rfl) ?_
  refine go_eq (lv' := [(0, vR 279)]) rfl rfl rfl rfl rfl ?_
  have hL12 := hL.2.1
  refine go_iconst dX10_allThick_0 (by decide) ?_
  refine go_istore_n (lv' := [(1, vI 0), (0, vR 279)]) dX10_allThick_1 rfl (by decide) rfl ?_
  refine go_iconst dX10_allThick_2 (by decide) ?_
  refine go_istore_n (lv' := [(2, vI 0), (1, vI 0), (0, vR 279)]) dX10_allThick_3 rfl (by decide) rfl ?_
  exact lp_X10_allThick hL hQ (L + 1) 0 (by omega) (by omega)

set_option maxHeartbeats 4000000 in
set_option maxRecDepth 100000 in
theorem lp_X10_cut {w L : Nat} {M : inm} {Q : Int → Nat → rfm → inm → Prop} (hL : Lay10 M L) : ∀ (d k : Nat), L < k + d → k ≤ L → Q (fst1 (fun j => decide (sumTo (fun j => M 284 (j + 13)) L / 2 < sumTo (fun j => M 284 (j + 13)) (j + 1))) (L - k) k) 303 (PP w) M → Go S0 yX10_cut cX10_cut 4 1 0 0 (some .int) 11 [(3, vI ((k : Nat) : Int)), (2, vI (sumTo (fun j => M 284 (j + 13)) k)), (0, vR 279), (1, vI (sumTo (fun j => M 284 (j + 13)) L / 2))] [] 303 (PP w) M (fun v n P M => ∃ z, v = some (vI z) ∧ Q z n P M) := by
  have hL12 := hL.2.1
  intro d
  induction d with
  | zero => intro k h1 h2 hQ; exfalso; omega
  | succ d ih =>
    intro k h1 h2 hQ
    have hs := sumTo_in (f := (fun j => M 284 (j + 13))) (b := 20) k (fun j hj => hL.2.2.1 j (by omega))
    have hs2 := sumTo_in (f := (fun j => M 284 (j + 13))) (b := 20) L (fun j hj => hL.2.2.1 j (by omega))
    refine go_iload_n 0 dX10_cut_11 rfl rfl ?_
    refine go_aload_n 2 dX10_cut_12 rfl rfl ?_
    refine go_getR (r := 284) dX10_cut_13 lk10_22.get kd_279 (by omega) rfl (pp_279_8 w) ?_
    refine go_iconst dX10_cut_16 (by decide) ?_
    refine gx_iaload (v := ((L : Nat) : Int)) 0 dX10_cut_17 kd_284 (by omega) ln_284 (by omega) (by omega) hL.1 ?_
    refine go_icmp_ge (tgt := 46) dX10_cut_18 rfl (fun c1 => ?_) (fun c1 => ?_)
    · refine go_iconst dX10_cut_46 (by decide) ?_
      refine go_iret dX10_cut_47 rfl rfl ⟨_, rfl, ?_⟩
      rw [show L - k = 0 by omega, fst1] at hQ
      exact hQ
    · refine go_iload_n 1 dX10_cut_21 rfl rfl ?_
      refine go_aload_n 2 dX10_cut_22 rfl rfl ?_
      refine go_getR (r := 284) dX10_cut_23 lk10_22.get kd_279 (by omega) rfl (pp_279_8 w) ?_
      refine go_bipush dX10_cut_26 (by decide) (by decide) ?_
      refine go_iload_n 0 dX10_cut_28 rfl rfl ?_
      refine gx_iadd (v := ((k + 13 : Nat) : Int)) dX10_cut_29 (by omega) ⟨by omega, by omega⟩ ?_
      have f2 := hL.2.2.1 k (by omega)
      refine gx_iaload (v := (M 284 (k + 13))) (k + 13) dX10_cut_30 kd_284 (by omega) ln_284 rfl (by omega) rfl ?_
      refine gx_iadd (v := ((sumTo (fun j => M 284 (j + 13)) k) + (M 284 (k + 13)))) dX10_cut_31 rfl ⟨by omega, by omega⟩ ?_
      refine go_istore_n (lv' := [(2, vI ((sumTo (fun j => M 284 (j + 13)) k) + (M 284 (k + 13)))), (3, vI ((k : Nat) : Int)), (0, vR 279), (1, vI (sumTo (fun j => M 284 (j + 13)) L / 2))]) dX10_cut_32 rfl (by decide) rfl ?_
      refine go_iload_n 0 dX10_cut_33 rfl rfl ?_
      refine go_iload_n 3 dX10_cut_34 rfl rfl ?_
      refine go_icmp_le (tgt := 40) dX10_cut_35 rfl (fun c3 => ?_) (fun c3 => ?_)
      · refine gx_iinc (v := ((k + 1 : Nat) : Int)) (lv' := [(3, vI ((k + 1 : Nat) : Int)), (2, vI ((sumTo (fun j => M 284 (j + 13)) k) + (M 284 (k + 13)))), (0, vR 279), (1, vI (sumTo (fun j => M 284 (j + 13)) L / 2))]) 1 dX10_cut_40 rfl (by omega) ⟨by omega, by omega⟩ (by decide) rfl ?_
        refine go_goto (tgt := 11) dX10_cut_43 rfl ?_
        have e4 : ((sumTo (fun j => M 284 (j + 13)) k) + (M 284 (k + 13))) = (sumTo (fun j => M 284 (j + 13)) (k + 1)) := by rfl
        rw [e4]
        have hd : sumTo (fun j => M 284 (j + 13)) (k + 1) = sumTo (fun j => M 284 (j + 13)) k + M 284 (k + 13) := rfl; rw [fst1_go (by omega) (decide_eq_false (by omega))] at hQ; exact ih (k + 1) (by omega) (by omega) hQ
      · refine go_iload_n 1 dX10_cut_38 rfl rfl ?_
        refine go_iret dX10_cut_39 rfl rfl ⟨_, rfl, ?_⟩
        have hd : sumTo (fun j => M 284 (j + 13)) (k + 1) = sumTo (fun j => M 284 (j + 13)) k + M 284 (k + 13) := rfl
        rw [fst1_hit (by omega) (decide_eq_true (by omega))] at hQ
        exact hQ

set_option maxHeartbeats 4000000 in
set_option maxRecDepth 100000 in
theorem ok_X10_cut {w L : Nat} {M : inm} {Q : Int → Nat → rfm → inm → Prop} (hL : Lay10 M L) (hQ : Q (cutV (fun j => M 284 (j + 13)) L) 303 (PP w) M) : OkI yX10_cut cX10_cut 4 1 0 0 (some .int) [vR 279] 303 (PP w) M Q := by
  refine OkI.of (by decide +kernel) (by decide +kernel) (Nat.le_of_ble_eq_true rfl) ?_
  refine go_eq (lv' := [(0, vR 279)]) rfl rfl rfl rfl rfl ?_
  have hL12 := hL.2.1
  refine go_aload_n 0 dX10_cut_0 rfl rfl ?_
  refine go_callVI (av := []) (st := []) (a := 279) (mc2 := 0) (ms2 := 0) dX10_cut_1 cw10_188 (by decide) rfl rfl (Nat.le_of_ble_eq_true rfl) rfl rfl kd_279 ⟨_, _, rfl⟩ (by decide) (by omega) (ok_X10_allThick hL ?_)
  have hA := sumTo_in (f := (fun j => M 284 (j + 13))) (b := 20) L (fun j hj => hL.2.2.1 j (by omega))
  refine go_iconst dX10_cut_4 (by decide) ?_
  refine gx_idiv (v := ((sumTo (fun j => M 284 (j + 13)) L) / 2)) dX10_cut_5 rfl (by omega) (by omega) ?_
  refine go_istore_n (lv' := [(1, vI ((sumTo (fun j => M 284 (j + 13)) L) / 2)), (0, vR 279)]) dX10_cut_6 rfl (by decide) rfl ?_
  refine go_iconst dX10_cut_7 (by decide) ?_
  refine go_istore_n (lv' := [(2, vI 0), (1, vI ((sumTo (fun j => M 284 (j + 13)) L) / 2)), (0, vR 279)]) dX10_cut_8 rfl (by decide) rfl ?_
  refine go_iconst dX10_cut_9 (by decide) ?_
  refine go_istore_n (lv' := [(3, vI 0), (2, vI 0), (1, vI ((sumTo (fun j => M 284 (j + 13)) L) / 2)), (0, vR 279)]) dX10_cut_10 rfl (by decide) rfl ?_
  refine go_lv [0, 1, 3, 2] rfl ?_
  exact lp_X10_cut hL (L + 1) 0 (by omega) (by omega) hQ

set_option maxHeartbeats 4000000 in
set_option maxRecDepth 100000 in
theorem lp_X10_canBe0 {w T t L : Nat} {lt : Nat → Nat} {M : inm} {b : Nat} {Q : Int → Nat → rfm → inm → Prop} (hT : Tys10 M T lt) (hL : Lay10 M L) (ht : t < T) (h1 : (begV lt (fun t k => M 283 (8 * t + k)) (fun j => M 284 (j + 1)) L t) = true → Q 1 303 (PP w) M) (h0 : (begV lt (fun t k => M 283 (8 * t + k)) (fun j => M 284 (j + 1)) L t) = false → Q 0 303 (PP w) M) (hb : b < min (lt t) L) (hbad : (fun k => decide (M 283 (8 * t + k) = M 284 (k + 1))) b = false) : ∀ (d k : Nat), (min (lt t) L) < k + d → k ≤ (min (lt t) L) → Go S0 yX10_canBe cX10_canBe 4 0 0 0 (some .boolean) 4 [(3, vI ((k : Nat) : Int)), (2, vI 0), (0, vR 279), (1, vI ((t : Nat) : Int))] [] 303 (PP w) M (fun v n P M => ∃ z, v = some (vI z) ∧ Q z n P M) := by
  have hT6 := hT.2.1
  have hL12 := hL.2.1
  have hl8 := (hT.2.2.1 t ht).2
  intro d
  induction d with
  | zero => intro k h1 h2; exfalso; omega
  | succ d ih =>
    intro k h1 h2
    refine go_iload_n 0 dX10_canBe_4 rfl rfl ?_
    refine go_aload_n 2 dX10_canBe_5 rfl rfl ?_
    refine go_getR (r := 284) dX10_canBe_6 lk10_22.get kd_279 (by omega) rfl (pp_279_8 w) ?_
    refine go_iconst dX10_canBe_9 (by decide) ?_
    refine gx_iaload (v := ((L : Nat) : Int)) 0 dX10_canBe_10 kd_284 (by omega) ln_284 (by omega) (by omega) hL.1 ?_
    refine go_icmp_ge (tgt := 62) dX10_canBe_11 rfl (fun c1 => ?_) (fun c1 => ?_)
    · refine go_iload_n 1 dX10_canBe_62 rfl rfl ?_
      refine go_iret dX10_canBe_63 rfl rfl ⟨_, rfl, ?_⟩
      exact h0 (by rw [begV]; exact allTo_no hbad (min (lt t) L) (by omega))
    · refine go_iload_n 0 dX10_canBe_14 rfl rfl ?_
      refine go_aload_n 2 dX10_canBe_15 rfl rfl ?_
      refine go_getR (r := 282) dX10_canBe_16 lk10_16.get kd_279 (by omega) rfl (pp_279_6 w) ?_
      refine go_iload_n 3 dX10_canBe_19 rfl rfl ?_
      refine gx_iaload (v := ((lt t : Nat) : Int)) t dX10_canBe_20 kd_282 (by omega) ln_282 rfl (by omega) ((hT.2.2.1 t ht).1) ?_
      refine go_icmp_ge (tgt := 62) dX10_canBe_21 rfl (fun c2 => ?_) (fun c2 => ?_)
      · refine go_iload_n 1 dX10_canBe_62 rfl rfl ?_
        refine go_iret dX10_canBe_63 rfl rfl ⟨_, rfl, ?_⟩
        exact h0 (by rw [begV]; exact allTo_no hbad (min (lt t) L) (by omega))
      · refine go_iload_n 1 dX10_canBe_24 rfl rfl ?_
        refine go_if_eq (tgt := 54) dX10_canBe_25 rfl (fun c3 => ?_) (fun c3 => ?_)
        · refine go_iconst dX10_canBe_54 (by decide) ?_
          refine go_istore_n (lv' := [(2, vI 0), (3, vI ((k : Nat) : Int)), (0, vR 279), (1, vI ((t : Nat) : Int))]) dX10_canBe_55 rfl (by decide) rfl ?_
          refine gx_iinc (v := ((k + 1 : Nat) : Int)) (lv' := [(3, vI ((k + 1 : Nat) : Int)), (2, vI 0), (0, vR 279), (1, vI ((t : Nat) : Int))]) 1 dX10_canBe_56 rfl (by omega) ⟨by omega, by omega⟩ (by decide) rfl ?_
          refine go_goto (tgt := 4) dX10_canBe_59 rfl ?_
          exact ih (k + 1) (by omega) (by omega)
        · exact absurd c3 (by decide)

set_option maxHeartbeats 4000000 in
set_option maxRecDepth 100000 in
theorem lp_X10_canBe1 {w T t L : Nat} {lt : Nat → Nat} {M : inm} {Q : Int → Nat → rfm → inm → Prop} (hT : Tys10 M T lt) (hL : Lay10 M L) (ht : t < T) (h1 : (begV lt (fun t k => M 283 (8 * t + k)) (fun j => M 284 (j + 1)) L t) = true → Q 1 303 (PP w) M) (h0 : (begV lt (fun t k => M 283 (8 * t + k)) (fun j => M 284 (j + 1)) L t) = false → Q 0 303 (PP w) M) : ∀ d k, min (lt t) L < k + d → k ≤ min (lt t) L → allTo (fun k => decide (M 283 (8 * t + k) = M 284 (k + 1))) k = true → Go S0 yX10_canBe cX10_canBe 4 0 0 0 (some .boolean) 4 [(3, vI ((k : Nat) : Int)), (2, vI 1), (0, vR 279), (1, vI ((t : Nat) : Int))] [] 303 (PP w) M (fun v n P M => ∃ z, v = some (vI z) ∧ Q z n P M) := by
  have hT6 := hT.2.1
  have hL12 := hL.2.1
  have hl8 := (hT.2.2.1 t ht).2
  intro d
  induction d with
  | zero => intro k g1 g2; exfalso; omega
  | succ d ih =>
    intro k g1 g2 hk
    refine go_iload_n 0 dX10_canBe_4 rfl rfl ?_
    refine go_aload_n 2 dX10_canBe_5 rfl rfl ?_
    refine go_getR (r := 284) dX10_canBe_6 lk10_22.get kd_279 (by omega) rfl (pp_279_8 w) ?_
    refine go_iconst dX10_canBe_9 (by decide) ?_
    refine gx_iaload (v := ((L : Nat) : Int)) 0 dX10_canBe_10 kd_284 (by omega) ln_284 (by omega) (by omega) hL.1 ?_
    refine go_icmp_ge (tgt := 62) dX10_canBe_11 rfl (fun c1 => ?_) (fun c1 => ?_)
    · refine go_iload_n 1 dX10_canBe_62 rfl rfl ?_
      refine go_iret dX10_canBe_63 rfl rfl ⟨_, rfl, ?_⟩
      exact h1 (by rw [begV, ← show k = min (lt t) L by omega]; exact hk)
    · refine go_iload_n 0 dX10_canBe_14 rfl rfl ?_
      refine go_aload_n 2 dX10_canBe_15 rfl rfl ?_
      refine go_getR (r := 282) dX10_canBe_16 lk10_16.get kd_279 (by omega) rfl (pp_279_6 w) ?_
      refine go_iload_n 3 dX10_canBe_19 rfl rfl ?_
      refine gx_iaload (v := ((lt t : Nat) : Int)) t dX10_canBe_20 kd_282 (by omega) ln_282 rfl (by omega) ((hT.2.2.1 t ht).1) ?_
      refine go_icmp_ge (tgt := 62) dX10_canBe_21 rfl (fun c2 => ?_) (fun c2 => ?_)
      · refine go_iload_n 1 dX10_canBe_62 rfl rfl ?_
        refine go_iret dX10_canBe_63 rfl rfl ⟨_, rfl, ?_⟩
        exact h1 (by rw [begV, ← show k = min (lt t) L by omega]; exact hk)
      · refine go_iload_n 1 dX10_canBe_24 rfl rfl ?_
        refine go_if_eq (tgt := 54) dX10_canBe_25 rfl (fun c3 => ?_) (fun c3 => ?_)
        · exact absurd c3 (by decide)
        · refine go_aload_n 2 dX10_canBe_28 rfl rfl ?_
          refine go_getR (r := 283) dX10_canBe_29 lk10_19.get kd_279 (by omega) rfl (pp_279_7 w) ?_
          refine go_bipush dX10_canBe_32 (by decide) (by decide) ?_
          refine go_iload_n 3 dX10_canBe_34 rfl rfl ?_
          refine gx_imul (v := ((8 * t : Nat) : Int)) dX10_canBe_35 (by omega) ⟨by omega, by omega⟩ ?_
          refine go_iload_n 0 dX10_canBe_36 rfl rfl ?_
          refine gx_iadd (v := (((8 * t) + k : Nat) : Int)) dX10_canBe_37 (by omega) ⟨by omega, by omega⟩ ?_
          refine gx_iaload (v := (M 283 ((8 * t) + k))) ((8 * t) + k) dX10_canBe_38 kd_283 (by omega) ln_283 rfl (by omega) rfl ?_
          refine go_aload_n 2 dX10_canBe_39 rfl rfl ?_
          refine go_getR (r := 284) dX10_canBe_40 lk10_22.get kd_279 (by omega) rfl (pp_279_8 w) ?_
          refine go_iconst dX10_canBe_43 (by decide) ?_
          refine go_iload_n 0 dX10_canBe_44 rfl rfl ?_
          refine gx_iadd (v := ((k + 1 : Nat) : Int)) dX10_canBe_45 (by omega) ⟨by omega, by omega⟩ ?_
          refine gx_iaload (v := (M 284 (k + 1))) (k + 1) dX10_canBe_46 kd_284 (by omega) ln_284 rfl (by omega) rfl ?_
          refine go_icmp_ne (tgt := 54) dX10_canBe_47 rfl (fun c4 => ?_) (fun c4 => ?_)
          · refine go_iconst dX10_canBe_54 (by decide) ?_
            refine go_istore_n (lv' := [(2, vI 0), (3, vI ((k : Nat) : Int)), (0, vR 279), (1, vI ((t : Nat) : Int))]) dX10_canBe_55 rfl (by decide) rfl ?_
            refine gx_iinc (v := ((k + 1 : Nat) : Int)) (lv' := [(3, vI ((k + 1 : Nat) : Int)), (2, vI 0), (0, vR 279), (1, vI ((t : Nat) : Int))]) 1 dX10_canBe_56 rfl (by omega) ⟨by omega, by omega⟩ (by decide) rfl ?_
            refine go_goto (tgt := 4) dX10_canBe_59 rfl ?_
            refine go_lv [0, 1, 2, 3] rfl ?_
            exact lp_X10_canBe0 hT hL ht h1 h0 (b := k) (by omega) (decide_eq_false (by omega)) (min (lt t) L + 1) (k + 1) (by omega) (by omega)
          · refine go_iconst dX10_canBe_50 (by decide) ?_
            refine go_goto (tgt := 55) dX10_canBe_51 rfl ?_
            refine go_istore_n (lv' := [(2, vI 1), (3, vI ((k : Nat) : Int)), (0, vR 279), (1, vI ((t : Nat) : Int))]) dX10_canBe_55 rfl (by decide) rfl ?_
            refine gx_iinc (v := ((k + 1 : Nat) : Int)) (lv' := [(3, vI ((k + 1 : Nat) : Int)), (2, vI 1), (0, vR 279), (1, vI ((t : Nat) : Int))]) 1 dX10_canBe_56 rfl (by omega) ⟨by omega, by omega⟩ (by decide) rfl ?_
            refine go_goto (tgt := 4) dX10_canBe_59 rfl ?_
            refine go_lv [0, 1, 2, 3] rfl ?_
            exact ih (k + 1) (by omega) (by omega) (allTo_s hk (decide_eq_true (by omega)))

set_option maxHeartbeats 4000000 in
set_option maxRecDepth 100000 in
theorem ok_X10_canBe {w T t L : Nat} {lt : Nat → Nat} {M : inm} {Q : Int → Nat → rfm → inm → Prop} (hT : Tys10 M T lt) (hL : Lay10 M L) (ht : t < T) (h1 : (begV lt (fun t k => M 283 (8 * t + k)) (fun j => M 284 (j + 1)) L t) = true → Q 1 303 (PP w) M) (h0 : (begV lt (fun t k => M 283 (8 * t + k)) (fun j => M 284 (j + 1)) L t) = false → Q 0 303 (PP w) M) : OkI yX10_canBe cX10_canBe 4 0 0 0 (some .boolean) [vR 279, vI ((t : Nat) : Int)] 303 (PP w) M Q := by
  refine OkI.of (by decide +kernel) (by decide +kernel) (Nat.le_of_ble_eq_true rfl) ?_
  refine go_eq (lv' := [(0, vR 279), (1, vI ((t : Nat) : Int))]) rfl rfl rfl rfl rfl ?_
  have hT6 := hT.2.1
  have hL12 := hL.2.1
  have hl8 := (hT.2.2.1 t ht).2
  refine go_iconst dX10_canBe_0 (by decide) ?_
  refine go_istore_n (lv' := [(2, vI 1), (0, vR 279), (1, vI ((t : Nat) : Int))]) dX10_canBe_1 rfl (by decide) rfl ?_
  refine go_iconst dX10_canBe_2 (by decide) ?_
  refine go_istore_n (lv' := [(3, vI 0), (2, vI 1), (0, vR 279), (1, vI ((t : Nat) : Int))]) dX10_canBe_3 rfl (by decide) rfl ?_
  exact lp_X10_canBe1 hT hL ht h1 h0 (min (lt t) L + 1) 0 (by omega) (by omega) rfl

set_option maxHeartbeats 4000000 in
set_option maxRecDepth 100000 in
theorem lp_X10_canBeOnes {w T L : Nat} {lt : Nat → Nat} {M : inm} {Q : Int → Nat → rfm → inm → Prop} (hT : Tys10 M T lt) (hL : Lay10 M L) (hQ : Q ((orTo (setG (begV lt (fun t k => M 283 (8 * t + k)) (fun j => M 284 (j + 1)) L)) T : Nat) : Int) 303 (PP w) M) : ∀ (d k : Nat), T < k + d → k ≤ T → Go S0 yX10_canBeOnes cX10_canBeOnes 3 1 0 0 (some .int) 4 [(2, vI ((k : Nat) : Int)), (1, vI ((orTo (setG (begV lt (fun t k => M 283 (8 * t + k)) (fun j => M 284 (j + 1)) L)) k : Nat) : Int)), (0, vR 279)] [] 303 (PP w) M (fun v n P M => ∃ z, v = some (vI z) ∧ Q z n P M) := by
  have hT6 := hT.2.1
  intro d
  induction d with
  | zero => intro k h1 h2; exfalso; omega
  | succ d ih =>
    intro k h1 h2
    refine go_iload_n 0 dX10_canBeOnes_4 rfl rfl ?_
    refine go_aload_n 2 dX10_canBeOnes_5 rfl rfl ?_
    refine gx_getI (v := ((T : Nat) : Int)) dX10_canBeOnes_6 lk10_164.get kd_279 (by omega) rfl hT.1 ?_
    refine go_icmp_ge (tgt := 36) dX10_canBeOnes_9 rfl (fun c1 => ?_) (fun c1 => ?_)
    · refine go_iload_n 1 dX10_canBeOnes_36 rfl rfl ?_
      refine go_iret dX10_canBeOnes_37 rfl rfl ⟨_, rfl, ?_⟩
      rw [show k = T by omega]
      exact hQ
    · refine go_iload_n 1 dX10_canBeOnes_12 rfl rfl ?_
      refine go_aload_n 2 dX10_canBeOnes_13 rfl rfl ?_
      refine go_iload_n 0 dX10_canBeOnes_14 rfl rfl ?_
      refine go_callVI (av := [vI ((k : Nat) : Int)]) (st := [vI ((orTo (setG (begV lt (fun t k => M 283 (8 * t + k)) (fun j => M 284 (j + 1)) L)) k : Nat) : Int)]) (a := 279) (mc2 := 0) (ms2 := 0) dX10_canBeOnes_15 cw10_191 (by decide) rfl rfl (Nat.le_of_ble_eq_true rfl) rfl rfl kd_279 ⟨_, _, rfl⟩ (by decide) (by omega) (ok_X10_canBe (t := k) hT hL (by omega) (fun b2 => ?_) (fun b3 => ?_))
      · skip
        refine go_if_eq (tgt := 27) dX10_canBeOnes_18 rfl (fun c4 => ?_) (fun c4 => ?_)
        · exact absurd c4 (by decide)
        · refine go_iconst dX10_canBeOnes_21 (by decide) ?_
          refine go_iload_n 0 dX10_canBeOnes_22 rfl rfl ?_
          refine gx_shl k dX10_canBeOnes_23 (by omega) (by omega) rfl ?_
          refine go_goto (tgt := 28) dX10_canBeOnes_24 rfl ?_
          refine gx_ior (a := orTo (setG (begV lt (fun t k => M 283 (8 * t + k)) (fun j => M 284 (j + 1)) L)) k) (b := (2 ^ k)) dX10_canBeOnes_28 (by omega) (by omega) ?_
          refine go_istore_n (lv' := [(1, vI (((orTo (setG (begV lt (fun t k => M 283 (8 * t + k)) (fun j => M 284 (j + 1)) L)) k) ||| (2 ^ k) : Nat) : Int)), (2, vI ((k : Nat) : Int)), (0, vR 279)]) dX10_canBeOnes_29 rfl (by decide) rfl ?_
          refine gx_iinc (v := ((k + 1 : Nat) : Int)) (lv' := [(2, vI ((k + 1 : Nat) : Int)), (1, vI (((orTo (setG (begV lt (fun t k => M 283 (8 * t + k)) (fun j => M 284 (j + 1)) L)) k) ||| (2 ^ k) : Nat) : Int)), (0, vR 279)]) 1 dX10_canBeOnes_30 rfl (by omega) ⟨by omega, by omega⟩ (by decide) rfl ?_
          refine go_goto (tgt := 4) dX10_canBeOnes_33 rfl ?_
          have e5 : (((orTo (setG (begV lt (fun t k => M 283 (8 * t + k)) (fun j => M 284 (j + 1)) L)) k) ||| (2 ^ k) : Nat) : Int) = ((orTo (setG (begV lt (fun t k => M 283 (8 * t + k)) (fun j => M 284 (j + 1)) L)) (k + 1) : Nat) : Int) := by (rw [orTo_s, setG]; simp_all)
          rw [e5]
          exact ih (k + 1) (by omega) (by omega)
      · skip
        refine go_if_eq (tgt := 27) dX10_canBeOnes_18 rfl (fun c6 => ?_) (fun c6 => ?_)
        · refine go_iconst dX10_canBeOnes_27 (by decide) ?_
          refine gx_ior (a := orTo (setG (begV lt (fun t k => M 283 (8 * t + k)) (fun j => M 284 (j + 1)) L)) k) (b := 0) dX10_canBeOnes_28 (by omega) (by omega) ?_
          refine go_istore_n (lv' := [(1, vI (((orTo (setG (begV lt (fun t k => M 283 (8 * t + k)) (fun j => M 284 (j + 1)) L)) k) ||| 0 : Nat) : Int)), (2, vI ((k : Nat) : Int)), (0, vR 279)]) dX10_canBeOnes_29 rfl (by decide) rfl ?_
          refine gx_iinc (v := ((k + 1 : Nat) : Int)) (lv' := [(2, vI ((k + 1 : Nat) : Int)), (1, vI (((orTo (setG (begV lt (fun t k => M 283 (8 * t + k)) (fun j => M 284 (j + 1)) L)) k) ||| 0 : Nat) : Int)), (0, vR 279)]) 1 dX10_canBeOnes_30 rfl (by omega) ⟨by omega, by omega⟩ (by decide) rfl ?_
          refine go_goto (tgt := 4) dX10_canBeOnes_33 rfl ?_
          have e7 : (((orTo (setG (begV lt (fun t k => M 283 (8 * t + k)) (fun j => M 284 (j + 1)) L)) k) ||| 0 : Nat) : Int) = ((orTo (setG (begV lt (fun t k => M 283 (8 * t + k)) (fun j => M 284 (j + 1)) L)) (k + 1) : Nat) : Int) := by (rw [orTo_s, setG]; simp_all)
          rw [e7]
          exact ih (k + 1) (by omega) (by omega)
        · exact absurd c6 (by decide)

set_option maxHeartbeats 4000000 in
set_option maxRecDepth 100000 in
theorem ok_X10_canBeOnes {w T L : Nat} {lt : Nat → Nat} {M : inm} {Q : Int → Nat → rfm → inm → Prop} (hT : Tys10 M T lt) (hL : Lay10 M L) (hQ : Q ((orTo (setG (begV lt (fun t k => M 283 (8 * t + k)) (fun j => M 284 (j + 1)) L)) T : Nat) : Int) 303 (PP w) M) : OkI yX10_canBeOnes cX10_canBeOnes 3 1 0 0 (some .int) [vR 279] 303 (PP w) M Q := by
  refine OkI.of (by decide +kernel) (by decide +kernel) (Nat.le_of_ble_eq_true rfl) ?_
  refine go_eq (lv' := [(0, vR 279)]) rfl rfl rfl rfl rfl ?_
  refine go_iconst dX10_canBeOnes_0 (by decide) ?_
  refine go_istore_n (lv' := [(1, vI 0), (0, vR 279)]) dX10_canBeOnes_1 rfl (by decide) rfl ?_
  refine go_iconst dX10_canBeOnes_2 (by decide) ?_
  refine go_istore_n (lv' := [(2, vI 0), (1, vI 0), (0, vR 279)]) dX10_canBeOnes_3 rfl (by decide) rfl ?_
  exact lp_X10_canBeOnes hT hL hQ (T + 1) 0 (by omega) (by omega)

