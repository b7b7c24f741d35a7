/-! ===== OnionProbate: deeds ===== -/
theorem Bd.rem {M : inm} {x c U : Nat} (hx : x < 30) (h : Bd M 30 U) : Bd (mRem M x c) 30 U := h.of (fun y j h1 h2 => mRem_out hx (by omega))
theorem Lay.rem {M : inm} {x c L : Nat} (hx : x < 30) (h : Lay M 30 L) : Lay (mRem M x c) 30 L := h.of (fun y j h1 h2 => mRem_out hx (by omega))
set_option maxHeartbeats 4000000 in
set_option maxRecDepth 100000 in
theorem ok_X9_refusalOfYears {w : Nat} {a : Int} {M : inm} {Q : Int → Nat → rfm → inm → Prop} (hw : Cs w) (ho : ¬ (1 ≤ a ∧ a ≤ 30) → Q (-1000000002) 303 (PP w) M) (hn : (1 ≤ a ∧ a ≤ 30) → M w 0 = 0 → Q (-1000000003) 303 (PP w) M) (hf : (1 ≤ a ∧ a ≤ 30) → ¬ M w 0 = 0 → 9000 < M 30 8 → Q (-1000000004) 303 (PP w) M) (h0 : (1 ≤ a ∧ a ≤ 30) → ¬ M w 0 = 0 → ¬ 9000 < M 30 8 → Q 0 303 (PP w) M) : OkI yX9_refusalOfYears cX9_refusalOfYears 2 0 0 0 (some .int) [vR 0, vI a] 303 (PP w) M Q := by
  refine OkI.of (by decide +kernel) (by decide +kernel) (Nat.le_of_ble_eq_true rfl) ?_
  refine go_eq (lv' := [(0, vR 0), (1, vI a)]) rfl rfl rfl rfl rfl ?_
  refine go_iload_n 1 dX9_refusalOfYears_0 rfl rfl ?_
  refine go_iconst dX9_refusalOfYears_1 (by decide) ?_
  refine go_icmp_lt (tgt := 11) dX9_refusalOfYears_2 rfl (fun c1 => ?_) (fun c1 => ?_)
  · refine go_ldc dX9_refusalOfYears_11 ik9_75 (by decide) ?_
    refine go_iret dX9_refusalOfYears_13 rfl rfl ⟨_, rfl, ?_⟩
    first | exact ho (by omega) | exact hn (by omega) (by omega) | exact hf (by omega) (by omega) (by omega) | exact h0 (by omega) (by omega) (by omega)
  · refine go_iload_n 1 dX9_refusalOfYears_5 rfl rfl ?_
    refine go_bipush dX9_refusalOfYears_6 (by decide) (by decide) ?_
    refine go_icmp_le (tgt := 14) dX9_refusalOfYears_8 rfl (fun c2 => ?_) (fun c2 => ?_)
    · refine go_aload_n 0 dX9_refusalOfYears_14 rfl rfl ?_
      refine go_getR (r := w) dX9_refusalOfYears_15 lk9_19.get kd_0 (by omega) rfl (pp_0_1 w) ?_
      refine gx_getI (v := (M w 0)) dX9_refusalOfYears_18 lk9_108.get hw.k0 hw.l0 rfl rfl ?_
      refine go_if_ne (tgt := 27) dX9_refusalOfYears_21 rfl (fun c3 => ?_) (fun c3 => ?_)
      · refine go_aload_n 0 dX9_refusalOfYears_27 rfl rfl ?_
        refine go_getR (r := 30) dX9_refusalOfYears_28 lk9_29.get kd_0 (by omega) rfl (pp_0_3 w) ?_
        refine gx_getI (v := (M 30 8)) dX9_refusalOfYears_31 lk9_120.get kd_30 (by omega) rfl rfl ?_
        refine go_sipush dX9_refusalOfYears_34 (by decide) (by decide) ?_
        refine go_icmp_le (tgt := 46) dX9_refusalOfYears_37 rfl (fun c4 => ?_) (fun c4 => ?_)
        · refine go_iconst dX9_refusalOfYears_46 (by decide) ?_
          refine go_iret dX9_refusalOfYears_47 rfl rfl ⟨_, rfl, ?_⟩
          first | exact ho (by omega) | exact hn (by omega) (by omega) | exact hf (by omega) (by omega) (by omega) | exact h0 (by omega) (by omega) (by omega)
        · refine go_ldcw dX9_refusalOfYears_40 ik9_305 (by decide) ?_
          refine go_goto (tgt := 47) dX9_refusalOfYears_43 rfl ?_
          refine go_iret dX9_refusalOfYears_47 rfl rfl ⟨_, rfl, ?_⟩
          first | exact ho (by omega) | exact hn (by omega) (by omega) | exact hf (by omega) (by omega) (by omega) | exact h0 (by omega) (by omega) (by omega)
      · refine go_ldc dX9_refusalOfYears_24 ik9_211 (by decide) ?_
        refine go_iret dX9_refusalOfYears_26 rfl rfl ⟨_, rfl, ?_⟩
        first | exact ho (by omega) | exact hn (by omega) (by omega) | exact hf (by omega) (by omega) (by omega) | exact h0 (by omega) (by omega) (by omega)
    · refine go_ldc dX9_refusalOfYears_11 ik9_75 (by decide) ?_
      refine go_iret dX9_refusalOfYears_13 rfl rfl ⟨_, rfl, ?_⟩
      first | exact ho (by omega) | exact hn (by omega) (by omega) | exact hf (by omega) (by omega) (by omega) | exact h0 (by omega) (by omega) (by omega)

set_option maxHeartbeats 4000000 in
set_option maxRecDepth 100000 in
theorem ok_X9_undo_in {w x c n U : Nat} {M : inm} {Q : Int → Nat → rfm → inm → Prop} (hx : M 37 1 = (x : Int)) (h30 : x < 30) (hc : M 37 2 = (c : Int)) (hc30 : c ≤ 30) (hn : 1 ≤ n ∧ n ≤ c) (hB : ∀ i, i < 30 → Bd M (39 + 7 * i) U) (hQ : Q (mBack M x c n 30 8) 303 (PP w) (mBack M x c n)) : OkI yX9_undo cX9_undo 2 3 0 0 (some .int) [vR 0, vI ((n : Nat) : Int)] 303 (PP w) M Q := by
  refine OkI.of (by decide +kernel) (by decide +kernel) (Nat.le_of_ble_eq_true rfl) ?_
  refine go_eq (lv' := [(0, vR 0), (1, vI ((n : Nat) : Int))]) rfl rfl rfl rfl rfl ?_
  refine go_iload_n 1 dX9_undo_0 rfl rfl ?_
  refine go_iconst dX9_undo_1 (by decide) ?_
  refine go_icmp_lt (tgt := 11) dX9_undo_2 rfl (fun c1 => ?_) (fun c1 => ?_)
  · exact absurd c1 (by omega)
  · refine go_iload_n 1 dX9_undo_5 rfl rfl ?_
    refine go_bipush dX9_undo_6 (by decide) (by decide) ?_
    refine go_icmp_le (tgt := 14) dX9_undo_8 rfl (fun c2 => ?_) (fun c2 => ?_)
    · refine go_iload_n 1 dX9_undo_14 rfl rfl ?_
      refine go_aload_n 0 dX9_undo_15 rfl rfl ?_
      refine go_getR (r := 37) dX9_undo_16 lk9_36.get kd_0 (by omega) rfl (pp_0_4 w) ?_
      refine gx_getI (v := ((c : Nat) : Int)) dX9_undo_19 lk9_167.get kd_37 (by omega) rfl hc ?_
      refine go_icmp_le (tgt := 28) dX9_undo_22 rfl (fun c3 => ?_) (fun c3 => ?_)
      · refine go_aload_n 0 dX9_undo_28 rfl rfl ?_
        refine go_getR (r := 37) dX9_undo_29 lk9_36.get kd_0 (by omega) rfl (pp_0_4 w) ?_
        refine go_iload_n 1 dX9_undo_32 rfl rfl ?_
        refine go_aload_n 0 dX9_undo_33 rfl rfl ?_
        refine go_getR (r := 30) dX9_undo_34 lk9_29.get kd_0 (by omega) rfl (pp_0_3 w) ?_
        refine go_callVV (av := [vI ((n : Nat) : Int), vR 30]) (st := []) (a := 37) (mc2 := 0) (ms2 := 0) dX9_undo_37 cw9_231 (by decide) rfl rfl (Nat.le_of_ble_eq_true rfl) rfl rfl kd_37 ⟨_, _, rfl⟩ (by decide) (by omega) (ok_X2_takeBack (U := U) hx h30 hc hc30 (by omega) hB ?_)
        refine go_aload_n 0 dX9_undo_40 rfl rfl ?_
        refine go_getR (r := 30) dX9_undo_41 lk9_29.get kd_0 (by omega) rfl (pp_0_3 w) ?_
        refine gx_getI (v := ((mBack M x c n) 30 8)) dX9_undo_44 lk9_120.get kd_30 (by omega) rfl rfl ?_
        refine go_iret dX9_undo_47 rfl rfl ⟨_, rfl, ?_⟩
        exact hQ
      · exact absurd c3 (by omega)
    · exact absurd c2 (by omega)

set_option maxHeartbeats 4000000 in
set_option maxRecDepth 100000 in
theorem ok_X9_undo_out {w c : Nat} {a : Int} {M : inm} {Q : Int → Nat → rfm → inm → Prop} (hc : M 37 2 = (c : Int)) (hc30 : c ≤ 30) (hk : ¬ (1 ≤ a ∧ a ≤ (c : Int))) (h0 : ¬ (1 ≤ a ∧ a ≤ 30) → Q (-1000000002) 303 (PP w) M) (h1 : (1 ≤ a ∧ a ≤ 30) → (c : Int) < a → Q (-1000000003) 303 (PP w) M) : OkI yX9_undo cX9_undo 2 3 0 0 (some .int) [vR 0, vI a] 303 (PP w) M Q := by
  refine OkI.of (by decide +kernel) (by decide +kernel) (Nat.le_of_ble_eq_true rfl) ?_
  refine go_eq (lv' := [(0, vR 0), (1, vI a)]) rfl rfl rfl rfl rfl ?_
  refine go_iload_n 1 dX9_undo_0 rfl rfl ?_
  refine go_iconst dX9_undo_1 (by decide) ?_
  refine go_icmp_lt (tgt := 11) dX9_undo_2 rfl (fun c1 => ?_) (fun c1 => ?_)
  · refine go_ldc dX9_undo_11 ik9_75 (by decide) ?_
    refine go_iret dX9_undo_13 rfl rfl ⟨_, rfl, ?_⟩
    first | exact h0 (by omega) | exact h1 (by omega) (by omega)
  · refine go_iload_n 1 dX9_undo_5 rfl rfl ?_
    refine go_bipush dX9_undo_6 (by decide) (by decide) ?_
    refine go_icmp_le (tgt := 14) dX9_undo_8 rfl (fun c2 => ?_) (fun c2 => ?_)
    · refine go_iload_n 1 dX9_undo_14 rfl rfl ?_
      refine go_aload_n 0 dX9_undo_15 rfl rfl ?_
      refine go_getR (r := 37) dX9_undo_16 lk9_36.get kd_0 (by omega) rfl (pp_0_4 w) ?_
      refine gx_getI (v := ((c : Nat) : Int)) dX9_undo_19 lk9_167.get kd_37 (by omega) rfl hc ?_
      refine go_icmp_le (tgt := 28) dX9_undo_22 rfl (fun c3 => ?_) (fun c3 => ?_)
      · exfalso; omega
      · refine go_ldc dX9_undo_25 ik9_211 (by decide) ?_
        refine go_iret dX9_undo_27 rfl rfl ⟨_, rfl, ?_⟩
        first | exact h0 (by omega) | exact h1 (by omega) (by omega)
    · refine go_ldc dX9_undo_11 ik9_75 (by decide) ?_
      refine go_iret dX9_undo_13 rfl rfl ⟨_, rfl, ?_⟩
      first | exact h0 (by omega) | exact h1 (by omega) (by omega)

set_option maxHeartbeats 4000000 in
set_option maxRecDepth 100000 in
theorem ok_X9_peel_in {w E L U x c j : Nat} {M : inm} {Q : Int → Nat → rfm → inm → Prop} (hw : Cs w) (hE : M w 3 = (E : Int) ∧ E ≤ 5) (hL : Lay M 30 L) (hB : Bd M 30 U) (hca : ∀ e, e < E → 0 ≤ M (w + 3) e ∧ M (w + 3) e ≤ 9) (hx : M 37 1 = (x : Int)) (h30 : x < 30) (hc : M 37 2 = (c : Int)) (hc30 : c ≤ 30) (hj : j < E) (h0 : ¬ (0 < (L : Int) ∧ M 30 9 = 0) → Q (-1000000003) 303 (PP w) M) (h1 : 0 < (L : Int) → M 30 9 = 0 → Q (worth (M 31 0) (M 32 0)) 303 (PP w) (mTake (mRem M x c) 30 j (M (w + 3) j))) : OkI yX9_peel cX9_peel 2 3 0 0 (some .int) [vR 0, vI ((j : Nat) : Int)] 303 (PP w) M Q := by
  refine OkI.of (by decide +kernel) (by decide +kernel) (Nat.le_of_ble_eq_true rfl) ?_
  refine go_eq (lv' := [(0, vR 0), (1, vI ((j : Nat) : Int))]) rfl rfl rfl rfl rfl ?_
  have hw30 := kdw hw
  have hE5 := hE.2
  have hL12 := hL.2.1
  refine go_aload_n 0 dX9_peel_0 rfl rfl ?_
  refine go_getR (r := w) dX9_peel_1 lk9_19.get kd_0 (by omega) rfl (pp_0_1 w) ?_
  refine go_iload_n 1 dX9_peel_4 rfl rfl ?_
  refine go_callVI (av := [vI ((j : Nat) : Int)]) (st := []) (a := w) (mc2 := 0) (ms2 := 0) dX9_peel_5 cw9_185 (by decide) rfl rfl (Nat.le_of_ble_eq_true rfl) rfl rfl hw.k0 ⟨_, _, rfl⟩ (by decide) hw.l0 (ok_X1_hasExecutor hw (fun _ _ => ?_) (fun h => absurd ⟨by omega, by rw [hE.1]; omega⟩ h))
  refine go_if_ne (tgt := 14) dX9_peel_8 rfl (fun c1 => ?_) (fun c1 => ?_)
  · refine go_aload_n 0 dX9_peel_14 rfl rfl ?_
    refine go_getR (r := 30) dX9_peel_15 lk9_29.get kd_0 (by omega) rfl (pp_0_3 w) ?_
    refine go_callVI (av := []) (st := []) (a := 30) (mc2 := 0) (ms2 := 0) dX9_peel_18 cw9_207 (by decide) rfl rfl (Nat.le_of_ble_eq_true rfl) rfl rfl kd_30 ⟨_, _, rfl⟩ (by decide) (by omega) (ok_X6_canBePeeled On_30 (fun q1 q2 => ?_) (fun q => ?_))
    · rw [hL.1] at q1
      refine go_if_ne (tgt := 27) dX9_peel_21 rfl (fun c2 => ?_) (fun c2 => ?_)
      · refine go_aload_n 0 dX9_peel_27 rfl rfl ?_
        refine go_getR (r := 37) dX9_peel_28 lk9_36.get kd_0 (by omega) rfl (pp_0_4 w) ?_
        refine go_aload_n 0 dX9_peel_31 rfl rfl ?_
        refine go_getR (r := 30) dX9_peel_32 lk9_29.get kd_0 (by omega) rfl (pp_0_3 w) ?_
        refine go_callVV (av := [vR 30]) (st := []) (a := 37) (mc2 := 0) (ms2 := 0) dX9_peel_35 cw9_212 (by decide) rfl rfl (Nat.le_of_ble_eq_true rfl) rfl rfl kd_37 ⟨_, _, rfl⟩ (by decide) (by omega) (ok_X2_remember hx h30 hc hc30 hB ?_)
        refine go_aload_n 0 dX9_peel_38 rfl rfl ?_
        refine go_getR (r := 30) dX9_peel_39 lk9_29.get kd_0 (by omega) rfl (pp_0_3 w) ?_
        refine go_iload_n 1 dX9_peel_42 rfl rfl ?_
        refine go_aload_n 0 dX9_peel_43 rfl rfl ?_
        refine go_getR (r := w) dX9_peel_44 lk9_19.get kd_0 (by omega) rfl (pp_0_1 w) ?_
        refine go_getR (r := (w + 3)) dX9_peel_47 lk9_188 hw.k0 hw.l0 rfl (hw.p7 _) ?_
        refine go_iload_n 1 dX9_peel_50 rfl rfl ?_
        refine gx_iaload (v := (M (w + 3) j)) j dX9_peel_51 hw.k3 (hw.l (by omega)) hw.n3 rfl (by omega) ((mRem_out (by omega) (by omega))) ?_
        refine go_callVI (av := [vI ((j : Nat) : Int), vI (M (w + 3) j)]) (st := []) (a := 30) (mc2 := 0) (ms2 := 0) dX9_peel_52 cw9_216 (by decide) rfl rfl (Nat.le_of_ble_eq_true rfl) rfl rfl kd_30 ⟨_, _, rfl⟩ (by decide) (by omega) (ok_X6_takeOff (e := j) (M := (mRem M x c)) On_30 (by omega) (hca j hj) (by rw [mRem_out h30 (by omega), hL.1]; omega) (by rw [mRem_out h30 (by omega)]; exact hL.2.2.1 0 (by omega)) (hB.rem h30).1 (hB.rem h30).2.1 (fun e he => by have := (hB.rem (c := c) h30).2.2.1 e he; have h9 := hB.2.2.2.2.2.2.2.2; omega) (hB.rem h30).2.2.2.1 (hB.rem h30).2.2.2.2.2.1 ?_)
        rw [show mRem M x c (30 + 1) 0 = M 31 0 from mRem_out h30 (by omega), show mRem M x c (30 + 2) 0 = M 32 0 from mRem_out h30 (by omega)]
        refine go_iret dX9_peel_55 rfl rfl ⟨_, rfl, ?_⟩
        first | exact h0 (by omega) | exact h1 (by omega) (by omega)
      · exact absurd c2 (by omega)
    · rw [hL.1] at q
      refine go_if_ne (tgt := 27) dX9_peel_21 rfl (fun c3 => ?_) (fun c3 => ?_)
      · exact absurd rfl c3
      · refine go_ldc dX9_peel_24 ik9_211 (by decide) ?_
        refine go_iret dX9_peel_26 rfl rfl ⟨_, rfl, ?_⟩
        first | exact h0 (by omega) | exact h1 (by omega) (by omega)
  · exact absurd c1 (by omega)

set_option maxHeartbeats 4000000 in
set_option maxRecDepth 100000 in
theorem ok_X9_peel_out {w E : Nat} {k : Int} {M : inm} {Q : Int → Nat → rfm → inm → Prop} (hw : Cs w) (hE : M w 3 = (E : Int) ∧ E ≤ 5) (hk : ¬ (0 ≤ k ∧ k < (E : Int))) (hQ : Q (-1000000001) 303 (PP w) M) : OkI yX9_peel cX9_peel 2 3 0 0 (some .int) [vR 0, vI k] 303 (PP w) M Q := by
  refine OkI.of (by decide +kernel) (by decide +kernel) (Nat.le_of_ble_eq_true rfl) ?_
  refine go_eq (lv' := [(0, vR 0), (1, vI k)]) rfl rfl rfl rfl rfl ?_
  refine go_aload_n 0 dX9_peel_0 rfl rfl ?_
  refine go_getR (r := w) dX9_peel_1 lk9_19.get kd_0 (by omega) rfl (pp_0_1 w) ?_
  refine go_iload_n 1 dX9_peel_4 rfl rfl ?_
  refine go_callVI (av := [vI k]) (st := []) (a := w) (mc2 := 0) (ms2 := 0) dX9_peel_5 cw9_185 (by decide) rfl rfl (Nat.le_of_ble_eq_true rfl) rfl rfl hw.k0 ⟨_, _, rfl⟩ (by decide) hw.l0 (ok_X1_hasExecutor hw (fun q1 q2 => absurd ⟨q1, by rw [hE.1] at q2; exact q2⟩ hk) (fun _ => ?_))
  refine go_if_ne (tgt := 14) dX9_peel_8 rfl (fun c1 => ?_) (fun c1 => ?_)
  · exact absurd rfl c1
  · refine go_ldc dX9_peel_11 ik9_172 (by decide) ?_
    refine go_iret dX9_peel_13 rfl rfl ⟨_, rfl, ?_⟩
    exact hQ

set_option maxHeartbeats 4000000 in
set_option maxRecDepth 100000 in
theorem ok_X9_stop {w U x c : Nat} {b : Int} {M : inm} {Q : Int → Nat → rfm → inm → Prop} (hw : Cs w) (hB : Bd M 30 U) (hb : b = 0 ∨ b = 1) (hx : M 37 1 = (x : Int)) (h30 : x < 30) (hc : M 37 2 = (c : Int)) (hc30 : c ≤ 30) (h0 : M w 0 = 0 → Q (-1000000003) 303 (PP w) M) (h1 : ¬ M w 0 = 0 → Q (if M 30 9 = 0 then 0 else 1) 303 (PP w) (up2 (mRem M x c) 30 9 b)) : OkI yX9_stop cX9_stop 3 3 0 0 (some .int) [vR 0, vI b] 303 (PP w) M Q := by
  refine OkI.of (by decide +kernel) (by decide +kernel) (Nat.le_of_ble_eq_true rfl) ?_
  refine go_eq (lv' := [(0, vR 0), (1, vI b)]) rfl rfl rfl rfl rfl ?_
  have hw30 := kdw hw
  refine go_aload_n 0 dX9_stop_0 rfl rfl ?_
  refine go_getR (r := w) dX9_stop_1 lk9_19.get kd_0 (by omega) rfl (pp_0_1 w) ?_
  refine gx_getI (v := (M w 0)) dX9_stop_4 lk9_108.get hw.k0 hw.l0 rfl rfl ?_
  refine go_if_ne (tgt := 13) dX9_stop_7 rfl (fun c1 => ?_) (fun c1 => ?_)
  · refine go_aload_n 0 dX9_stop_13 rfl rfl ?_
    refine go_getR (r := 37) dX9_stop_14 lk9_36.get kd_0 (by omega) rfl (pp_0_4 w) ?_
    refine go_aload_n 0 dX9_stop_17 rfl rfl ?_
    refine go_getR (r := 30) dX9_stop_18 lk9_29.get kd_0 (by omega) rfl (pp_0_3 w) ?_
    refine go_callVV (av := [vR 30]) (st := []) (a := 37) (mc2 := 0) (ms2 := 0) dX9_stop_21 cw9_212 (by decide) rfl rfl (Nat.le_of_ble_eq_true rfl) rfl rfl kd_37 ⟨_, _, rfl⟩ (by decide) (by omega) (ok_X2_remember hx h30 hc hc30 hB ?_)
    refine go_aload_n 0 dX9_stop_24 rfl rfl ?_
    refine go_getR (r := 30) dX9_stop_25 lk9_29.get kd_0 (by omega) rfl (pp_0_3 w) ?_
    refine gx_getI (v := (M 30 9)) dX9_stop_28 lk9_123.get kd_30 (by omega) rfl ((mRem_out (by omega) (by omega))) ?_
    refine go_if_eq (tgt := 38) dX9_stop_31 rfl (fun c2 => ?_) (fun c2 => ?_)
    · refine go_iconst dX9_stop_38 (by decide) ?_
      refine go_istore_n (lv' := [(2, vI 0), (0, vR 0), (1, vI b)]) dX9_stop_39 rfl (by decide) rfl ?_
      refine go_aload_n 1 dX9_stop_40 rfl rfl ?_
      refine go_getR (r := 30) dX9_stop_41 lk9_29.get kd_0 (by omega) rfl (pp_0_3 w) ?_
      refine go_iload_n 2 dX9_stop_44 rfl rfl ?_
      refine go_putZ (fin := false) dX9_stop_45 (Or.inr ⟨lk9_123, rfl⟩) kd_30 (by omega) rfl (Or.inl rfl) (by omega) ?_
      refine go_iload_n 0 dX9_stop_48 rfl rfl ?_
      refine go_iret dX9_stop_49 rfl rfl ⟨_, rfl, ?_⟩
      first | exact h0 (by omega) | (first | (rw [if_pos (by omega)] at h1; exact h1 (by omega)) | (rw [if_neg (by omega)] at h1; exact h1 (by omega)))
    · refine go_iconst dX9_stop_34 (by decide) ?_
      refine go_goto (tgt := 39) dX9_stop_35 rfl ?_
      refine go_istore_n (lv' := [(2, vI 1), (0, vR 0), (1, vI b)]) dX9_stop_39 rfl (by decide) rfl ?_
      refine go_aload_n 1 dX9_stop_40 rfl rfl ?_
      refine go_getR (r := 30) dX9_stop_41 lk9_29.get kd_0 (by omega) rfl (pp_0_3 w) ?_
      refine go_iload_n 2 dX9_stop_44 rfl rfl ?_
      refine go_putZ (fin := false) dX9_stop_45 (Or.inr ⟨lk9_123, rfl⟩) kd_30 (by omega) rfl (Or.inl rfl) (by omega) ?_
      refine go_iload_n 0 dX9_stop_48 rfl rfl ?_
      refine go_iret dX9_stop_49 rfl rfl ⟨_, rfl, ?_⟩
      first | exact h0 (by omega) | (first | (rw [if_pos (by omega)] at h1; exact h1 (by omega)) | (rw [if_neg (by omega)] at h1; exact h1 (by omega)))
  · refine go_ldc dX9_stop_10 ik9_211 (by decide) ?_
    refine go_iret dX9_stop_12 rfl rfl ⟨_, rfl, ?_⟩
    first | exact h0 (by omega) | (first | (rw [if_pos (by omega)] at h1; exact h1 (by omega)) | (rw [if_neg (by omega)] at h1; exact h1 (by omega)))

set_option maxHeartbeats 4000000 in
set_option maxRecDepth 100000 in
theorem ok_X9_visit {w L U x c : Nat} {M : inm} {Q : Int → Nat → rfm → inm → Prop} (hL : Lay M 30 L) (hB : Bd M 30 U) (hx : M 37 1 = (x : Int)) (h30 : x < 30) (hc : M 37 2 = (c : Int)) (hc30 : c ≤ 30) (h0 : L = 0 → Q (-1000000003) 303 (PP w) M) (h1 : 0 < L → Q (mThick (mRem M x c) 30 32 0) 303 (PP w) (mThick (mRem M x c) 30)) : OkI yX9_visit cX9_visit 1 3 0 0 (some .int) [vR 0] 303 (PP w) M Q := by
  refine OkI.of (by decide +kernel) (by decide +kernel) (Nat.le_of_ble_eq_true rfl) ?_
  refine go_eq (lv' := [(0, vR 0)]) rfl rfl rfl rfl rfl ?_
  have hL12 := hL.2.1
  refine go_aload_n 0 dX9_visit_0 rfl rfl ?_
  refine go_getR (r := 30) dX9_visit_1 lk9_29.get kd_0 (by omega) rfl (pp_0_3 w) ?_
  refine gx_getI (v := ((L : Nat) : Int)) dX9_visit_4 lk9_102.get kd_30 (by omega) rfl hL.1 ?_
  refine go_if_ne (tgt := 13) dX9_visit_7 rfl (fun c1 => ?_) (fun c1 => ?_)
  · refine go_aload_n 0 dX9_visit_13 rfl rfl ?_
    refine go_getR (r := 37) dX9_visit_14 lk9_36.get kd_0 (by omega) rfl (pp_0_4 w) ?_
    refine go_aload_n 0 dX9_visit_17 rfl rfl ?_
    refine go_getR (r := 30) dX9_visit_18 lk9_29.get kd_0 (by omega) rfl (pp_0_3 w) ?_
    refine go_callVV (av := [vR 30]) (st := []) (a := 37) (mc2 := 0) (ms2 := 0) dX9_visit_21 cw9_212 (by decide) rfl rfl (Nat.le_of_ble_eq_true rfl) rfl rfl kd_37 ⟨_, _, rfl⟩ (by decide) (by omega) (ok_X2_remember hx h30 hc hc30 hB ?_)
    refine go_aload_n 0 dX9_visit_24 rfl rfl ?_
    refine go_getR (r := 30) dX9_visit_25 lk9_29.get kd_0 (by omega) rfl (pp_0_3 w) ?_
    refine go_callVV (av := []) (st := []) (a := 30) (mc2 := 0) (ms2 := 0) dX9_visit_28 cw9_219 (by decide) rfl rfl (Nat.le_of_ble_eq_true rfl) rfl rfl kd_30 ⟨_, _, rfl⟩ (by decide) (by omega) (ok_X6_thicken (M := (mRem M x c)) On_30 (by rw [mRem_out h30 (by omega), hL.1]; omega) (by rw [mRem_out h30 (by omega)]; exact (hL.2.2.1 0 (by omega)).1) ?_)
    refine go_aload_n 0 dX9_visit_31 rfl rfl ?_
    refine go_getR (r := 30) dX9_visit_32 lk9_29.get kd_0 (by omega) rfl (pp_0_3 w) ?_
    refine go_getR (r := 32) dX9_visit_35 lk9_176 kd_30 (by omega) rfl (pp_30_2 w) ?_
    refine go_iconst dX9_visit_38 (by decide) ?_
    refine gx_iaload (v := ((mThick (mRem M x c) 30) 32 0)) 0 dX9_visit_39 kd_32 (by omega) ln_32 (by omega) (by omega) rfl ?_
    refine go_iret dX9_visit_40 rfl rfl ⟨_, rfl, ?_⟩
    first | exact h0 (by omega) | exact h1 (by omega)
  · refine go_ldc dX9_visit_10 ik9_211 (by decide) ?_
    refine go_iret dX9_visit_12 rfl rfl ⟨_, rfl, ?_⟩
    first | exact h0 (by omega) | exact h1 (by omega)

def YP (M : inm) (w x c L E U : Nat) : Prop := Cs w ∧ (M 37 1 = (x : Int) ∧ x < 30) ∧ (M 37 2 = (c : Int) ∧ c ≤ 30) ∧ Bd M 30 U ∧ Lay M 30 L ∧ (M w 3 = (E : Int) ∧ E ≤ 5) ∧ (∀ e, e < E → 0 ≤ M (w + 3) e ∧ M (w + 3) e ≤ 9) ∧ ∀ e, e < E → 1 ≤ M (w + 4) e ∧ M (w + 4) e ≤ 9
set_option maxHeartbeats 4000000 in
set_option maxRecDepth 100000 in
theorem lp_X9_year {w n : Nat} {Q : Int → Nat → rfm → inm → Prop} (hw : Cs w) (hn : n ≤ 30) (I : Nat → inm → Prop) (hstep : ∀ k M', k < n → I k M' → ∃ x c L E U, YP M' w x c L E U ∧ I (k + 1) (mYear (mRem M' x c) 30 w L E)) (hQ : ∀ M', I n M' → Q (M' 30 8) 303 (PP w) M') : ∀ d k, n < k + d → k ≤ n → ∀ M' : inm, I k M' → Go S0 yX9_year cX9_year 4 3 0 0 (some .int) 14 [(3, vI ((k : Nat) : Int)), (0, vR 0), (1, vI ((n : Nat) : Int))] [] 303 (PP w) M' (fun v n P M => ∃ z, v = some (vI z) ∧ Q z n P M) := by
  have hw30 := kdw hw
  intro d
  induction d with
  | zero => intro k h1 h2; exfalso; omega
  | succ d ih =>
    intro k h1 h2 M' hI
    refine go_iload_n 0 dX9_year_14 rfl rfl ?_
    refine go_iload_n 2 dX9_year_15 rfl rfl ?_
    refine go_icmp_ge (tgt := 47) dX9_year_16 rfl (fun c1 => ?_) (fun c1 => ?_)
    · refine go_aload_n 1 dX9_year_47 rfl rfl ?_
      refine go_getR (r := 30) dX9_year_48 lk9_29.get kd_0 (by omega) rfl (pp_0_3 w) ?_
      refine gx_getI (v := (M' 30 8)) dX9_year_51 lk9_120.get kd_30 (by omega) rfl rfl ?_
      refine go_iret dX9_year_54 rfl rfl ⟨_, rfl, ?_⟩
      rw [show k = n by omega] at hI
      exact hQ M' hI
    · obtain ⟨x, c, L, E, U, ⟨-, hx, hc, hB, hL, hE, hca, hqu⟩, hI2⟩ := hstep k M' (by omega) hI
      refine go_aload_n 1 dX9_year_19 rfl rfl ?_
      refine go_getR (r := 37) dX9_year_20 lk9_36.get kd_0 (by omega) rfl (pp_0_4 w) ?_
      refine go_aload_n 1 dX9_year_23 rfl rfl ?_
      refine go_getR (r := 30) dX9_year_24 lk9_29.get kd_0 (by omega) rfl (pp_0_3 w) ?_
      refine go_callVV (av := [vR 30]) (st := []) (a := 37) (mc2 := 0) (ms2 := 0) dX9_year_27 cw9_212 (by decide) rfl rfl (Nat.le_of_ble_eq_true rfl) rfl rfl kd_37 ⟨_, _, rfl⟩ (by decide) (by omega) (ok_X2_remember (M := M') hx.1 hx.2 hc.1 hc.2 hB ?_)
      refine go_aload_n 1 dX9_year_30 rfl rfl ?_
      refine go_getR (r := 30) dX9_year_31 lk9_29.get kd_0 (by omega) rfl (pp_0_3 w) ?_
      refine go_aload_n 1 dX9_year_34 rfl rfl ?_
      refine go_getR (r := w) dX9_year_35 lk9_19.get kd_0 (by omega) rfl (pp_0_1 w) ?_
      refine go_callVV (av := [vR w]) (st := []) (a := 30) (mc2 := 0) (ms2 := 0) dX9_year_38 cw9_225 (by decide) rfl rfl (Nat.le_of_ble_eq_true rfl) rfl rfl kd_30 ⟨_, _, rfl⟩ (by decide) (by omega) (ok_X6_passYear (M := mRem M' x c) (L := L) (E := E) On_30 hw (hL.rem hx.2) ⟨(mRem_out hx.2 (by omega)).trans hE.1, hE.2⟩ (fun e he => (hB.rem hx.2).2.1 e (by omega)) (fun e he => by rw [mRem_out hx.2 (by omega)]; exact hqu e he) (by have h9 := (hB.rem (c := c) hx.2).2.2.2.2.1; have h10 := hB.2.2.2.2.2.2.2.2; omega) ?_)
      refine gx_iinc (v := ((k + 1 : Nat) : Int)) (lv' := [(3, vI ((k + 1 : Nat) : Int)), (0, vR 0), (1, vI ((n : Nat) : Int))]) 0 dX9_year_41 rfl (by omega) ⟨by omega, by omega⟩ (by decide) rfl ?_
      refine go_goto (tgt := 14) dX9_year_44 rfl ?_
      refine go_lv [0, 1, 2] rfl ?_
      exact ih (k + 1) (by omega) (by omega) _ hI2

set_option maxHeartbeats 4000000 in
set_option maxRecDepth 100000 in
theorem ok_X9_year_in {w n : Nat} {M : inm} {Q : Int → Nat → rfm → inm → Prop} (hw : Cs w) (hn : 1 ≤ n ∧ n ≤ 30) (h0 : ¬ M w 0 = 0) (h9 : ¬ 9000 < M 30 8) (I : Nat → inm → Prop) (hstep : ∀ k M', k < n → I k M' → ∃ x c L E U, YP M' w x c L E U ∧ I (k + 1) (mYear (mRem M' x c) 30 w L E)) (hQ : ∀ M', I n M' → Q (M' 30 8) 303 (PP w) M') (hI : I 0 M) : OkI yX9_year cX9_year 4 3 0 0 (some .int) [vR 0, vI ((n : Nat) : Int)] 303 (PP w) M Q := by
  refine OkI.of (by decide +kernel) (by decide +kernel) (Nat.le_of_ble_eq_true rfl) ?_
  refine go_eq (lv' := [(0, vR 0), (1, vI ((n : Nat) : Int))]) rfl rfl rfl rfl rfl ?_
  refine go_aload_n 0 dX9_year_0 rfl rfl ?_
  refine go_iload_n 1 dX9_year_1 rfl rfl ?_
  refine go_callVI (av := [vI ((n : Nat) : Int)]) (st := []) (a := 0) (mc2 := 0) (ms2 := 0) dX9_year_2 cw9_222 (by decide) rfl rfl (Nat.le_of_ble_eq_true rfl) rfl rfl kd_0 ⟨_, _, rfl⟩ (by decide) (by omega) (ok_X9_refusalOfYears hw (fun q => absurd (by omega) q) (fun q1 q2 => absurd q2 h0) (fun q1 q2 q3 => absurd q3 h9) (fun _ _ _ => ?_))
  refine go_istore_n (lv' := [(2, vI 0), (0, vR 0), (1, vI ((n : Nat) : Int))]) dX9_year_5 rfl (by decide) rfl ?_
  refine go_iload_n 0 dX9_year_6 rfl rfl ?_
  refine go_if_eq (tgt := 12) dX9_year_7 rfl (fun c1 => ?_) (fun c1 => ?_)
  · refine go_iconst dX9_year_12 (by decide) ?_
    refine go_istore_n (lv' := [(3, vI 0), (2, vI 0), (0, vR 0), (1, vI ((n : Nat) : Int))]) dX9_year_13 rfl (by decide) rfl ?_
    refine go_lv [0, 2, 3] rfl ?_
    exact lp_X9_year hw hn.2 I hstep hQ (n + 1) 0 (by omega) (by omega) M hI
  · exact absurd rfl c1

set_option maxHeartbeats 4000000 in
set_option maxRecDepth 100000 in
theorem ok_X9_year_out {w : Nat} {a : Int} {M : inm} {Q : Int → Nat → rfm → inm → Prop} (hw : Cs w) (hk : ¬ ((1 ≤ a ∧ a ≤ 30) ∧ ¬ M w 0 = 0 ∧ ¬ 9000 < M 30 8)) (ho : ¬ (1 ≤ a ∧ a ≤ 30) → Q (-1000000002) 303 (PP w) M) (hn : (1 ≤ a ∧ a ≤ 30) → M w 0 = 0 → Q (-1000000003) 303 (PP w) M) (hf : (1 ≤ a ∧ a ≤ 30) → ¬ M w 0 = 0 → 9000 < M 30 8 → Q (-1000000004) 303 (PP w) M) : OkI yX9_year cX9_year 4 3 0 0 (some .int) [vR 0, vI a] 303 (PP w) M Q := by
  refine OkI.of (by decide +kernel) (by decide +kernel) (Nat.le_of_ble_eq_true rfl) ?_
  refine go_eq (lv' := [(0, vR 0), (1, vI a)]) rfl rfl rfl rfl rfl ?_
  refine go_aload_n 0 dX9_year_0 rfl rfl ?_
  refine go_iload_n 1 dX9_year_1 rfl rfl ?_
  refine go_callVI (av := [vI a]) (st := []) (a := 0) (mc2 := 0) (ms2 := 0) dX9_year_2 cw9_222 (by decide) rfl rfl (Nat.le_of_ble_eq_true rfl) rfl rfl kd_0 ⟨_, _, rfl⟩ (by decide) (by omega) (ok_X9_refusalOfYears hw (fun q => ?_) (fun q1 q2 => ?_) (fun q1 q2 q3 => ?_) (fun q1 q2 q3 => absurd ⟨q1, q2, q3⟩ hk))
  · skip
    refine go_istore_n (lv' := [(2, vI (-1000000002)), (0, vR 0), (1, vI a)]) dX9_year_5 rfl (by decide) rfl ?_
    refine go_iload_n 0 dX9_year_6 rfl rfl ?_
    refine go_if_eq (tgt := 12) dX9_year_7 rfl (fun c1 => ?_) (fun c1 => ?_)
    · exact absurd c1 (by decide)
    · refine go_iload_n 0 dX9_year_10 rfl rfl ?_
      refine go_iret dX9_year_11 rfl rfl ⟨_, rfl, ?_⟩
      first | exact ho (by omega) | exact hn (by omega) (by omega) | exact hf (by omega) (by omega) (by omega)
  · skip
    refine go_istore_n (lv' := [(2, vI (-1000000003)), (0, vR 0), (1, vI a)]) dX9_year_5 rfl (by decide) rfl ?_
    refine go_iload_n 0 dX9_year_6 rfl rfl ?_
    refine go_if_eq (tgt := 12) dX9_year_7 rfl (fun c2 => ?_) (fun c2 => ?_)
    · exact absurd c2 (by decide)
    · refine go_iload_n 0 dX9_year_10 rfl rfl ?_
      refine go_iret dX9_year_11 rfl rfl ⟨_, rfl, ?_⟩
      first | exact ho (by omega) | exact hn (by omega) (by omega) | exact hf (by omega) (by omega) (by omega)
  · skip
    refine go_istore_n (lv' := [(2, vI (-1000000004)), (0, vR 0), (1, vI a)]) dX9_year_5 rfl (by decide) rfl ?_
    refine go_iload_n 0 dX9_year_6 rfl rfl ?_
    refine go_if_eq (tgt := 12) dX9_year_7 rfl (fun c3 => ?_) (fun c3 => ?_)
    · exact absurd c3 (by decide)
    · refine go_iload_n 0 dX9_year_10 rfl rfl ?_
      refine go_iret dX9_year_11 rfl rfl ⟨_, rfl, ?_⟩
      first | exact ho (by omega) | exact hn (by omega) (by omega) | exact hf (by omega) (by omega) (by omega)

set_option maxHeartbeats 4000000 in
set_option maxRecDepth 100000 in
theorem ok_X9_drift_out {w : Nat} {a : Int} {M : inm} {Q : Int → Nat → rfm → inm → Prop} (hw : Cs w) (hk : ¬ ((1 ≤ a ∧ a ≤ 30) ∧ ¬ M w 0 = 0 ∧ ¬ 9000 < M 30 8)) (ho : ¬ (1 ≤ a ∧ a ≤ 30) → Q (-1000000002) 303 (PP w) M) (hn : (1 ≤ a ∧ a ≤ 30) → M w 0 = 0 → Q (-1000000003) 303 (PP w) M) (hf : (1 ≤ a ∧ a ≤ 30) → ¬ M w 0 = 0 → 9000 < M 30 8 → Q (-1000000004) 303 (PP w) M) : OkI yX9_drift cX9_drift 4 4 0 0 (some .int) [vR 0, vI a] 303 (PP w) M Q := by
  refine OkI.of (by decide +kernel) (by decide +kernel) (Nat.le_of_ble_eq_true rfl) ?_
  refine go_eq (lv' := [(0, vR 0), (1, vI a)]) rfl rfl rfl rfl rfl ?_
  refine go_aload_n 0 dX9_drift_0 rfl rfl ?_
  refine go_iload_n 1 dX9_drift_1 rfl rfl ?_
  refine go_callVI (av := [vI a]) (st := []) (a := 0) (mc2 := 0) (ms2 := 0) dX9_drift_2 cw9_222 (by decide) rfl rfl (Nat.le_of_ble_eq_true rfl) rfl rfl kd_0 ⟨_, _, rfl⟩ (by decide) (by omega) (ok_X9_refusalOfYears hw (fun q => ?_) (fun q1 q2 => ?_) (fun q1 q2 q3 => ?_) (fun q1 q2 q3 => absurd ⟨q1, q2, q3⟩ hk))
  · skip
    refine go_istore_n (lv' := [(2, vI (-1000000002)), (0, vR 0), (1, vI a)]) dX9_drift_5 rfl (by decide) rfl ?_
    refine go_iload_n 0 dX9_drift_6 rfl rfl ?_
    refine go_if_eq (tgt := 12) dX9_drift_7 rfl (fun c1 => ?_) (fun c1 => ?_)
    · exact absurd c1 (by decide)
    · refine go_iload_n 0 dX9_drift_10 rfl rfl ?_
      refine go_iret dX9_drift_11 rfl rfl ⟨_, rfl, ?_⟩
      first | exact ho (by omega) | exact hn (by omega) (by omega) | exact hf (by omega) (by omega) (by omega)
  · skip
    refine go_istore_n (lv' := [(2, vI (-1000000003)), (0, vR 0), (1, vI a)]) dX9_drift_5 rfl (by decide) rfl ?_
    refine go_iload_n 0 dX9_drift_6 rfl rfl ?_
    refine go_if_eq (tgt := 12) dX9_drift_7 rfl (fun c2 => ?_) (fun c2 => ?_)
    · exact absurd c2 (by decide)
    · refine go_iload_n 0 dX9_drift_10 rfl rfl ?_
      refine go_iret dX9_drift_11 rfl rfl ⟨_, rfl, ?_⟩
      first | exact ho (by omega) | exact hn (by omega) (by omega) | exact hf (by omega) (by omega) (by omega)
  · skip
    refine go_istore_n (lv' := [(2, vI (-1000000004)), (0, vR 0), (1, vI a)]) dX9_drift_5 rfl (by decide) rfl ?_
    refine go_iload_n 0 dX9_drift_6 rfl rfl ?_
    refine go_if_eq (tgt := 12) dX9_drift_7 rfl (fun c3 => ?_) (fun c3 => ?_)
    · exact absurd c3 (by decide)
    · refine go_iload_n 0 dX9_drift_10 rfl rfl ?_
      refine go_iret dX9_drift_11 rfl rfl ⟨_, rfl, ?_⟩
      first | exact ho (by omega) | exact hn (by omega) (by omega) | exact hf (by omega) (by omega) (by omega)

