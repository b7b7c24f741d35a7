/-! ===== OnionProbate: more of its face ===== -/
theorem mRem_out {M : inm} {x c y j : Nat} (hx : x < 30) (h : y < 37 ∨ 248 < y) : mRem M x c y j = M y j := by
  unfold mRem
  rw [up2_ne (by omega), up2_ne (by omega), mCopy_out (by omega)]
theorem kdw {w : Nat} (h : Cs w) : w + 12 < 30 := by rcases h with rfl | rfl <;> omega
set_option maxHeartbeats 4000000 in
set_option maxRecDepth 100000 in
theorem ok_X9_layer_in {w L : Nat} {M : inm} {j : Nat} {k a : Int} {Q : Int → Nat → rfm → inm → Prop} (hL : Lay M 30 L) (hj : j < L) (hQ : Q (sel [M 31 j, M 32 j, worth (M 31 j) (M 32 j), sting (M 31 j) (M 32 j)] a (-1000000002)) 303 (PP w) M) : OkI yX9_layer cX9_layer 3 2 0 0 (some .int) [vR 0, vI ((j : Nat) : Int), vI a] 303 (PP w) M Q := by
  refine OkI.of (by decide +kernel) (by decide +kernel) (Nat.le_of_ble_eq_true rfl) ?_
  refine go_eq (lv' := [(0, vR 0), (1, vI ((j : Nat) : Int)), (2, vI a)]) rfl rfl rfl rfl rfl ?_
  have hL12 := hL.2.1
  refine go_aload_n 0 dX9_layer_0 rfl rfl ?_
  refine go_getR (r := 30) dX9_layer_1 lk9_29.get kd_0 (by omega) rfl (pp_0_3 w) ?_
  refine go_iload_n 1 dX9_layer_4 rfl rfl ?_
  refine go_callVI (av := [vI ((j : Nat) : Int)]) (st := []) (a := 30) (mc2 := 0) (ms2 := 0) dX9_layer_5 cw9_168 (by decide) rfl rfl (Nat.le_of_ble_eq_true rfl) rfl rfl kd_30 ⟨_, _, rfl⟩ (by decide) (by omega) (ok_X6_hasLayer On_30 (fun _ _ => ?_) (fun h => absurd ⟨by omega, by rw [hL.1]; omega⟩ h))
  refine go_if_ne (tgt := 14) dX9_layer_8 rfl (fun c1 => ?_) (fun c1 => ?_)
  · refine go_iload_n 2 dX9_layer_14 rfl rfl ?_
    by_cases s2 : a = 0
    · refine go_tblIn (tgt := 44) dX9_layer_15 (by omega) (by omega) (by rw [s2]; rfl) rfl ?_
      refine go_aload_n 0 dX9_layer_44 rfl rfl ?_
      refine go_getR (r := 30) dX9_layer_45 lk9_29.get kd_0 (by omega) rfl (pp_0_3 w) ?_
      refine go_getR (r := 31) dX9_layer_48 lk9_173 kd_30 (by omega) rfl (pp_30_1 w) ?_
      refine go_iload_n 1 dX9_layer_51 rfl rfl ?_
      refine gx_iaload (v := (M 31 j)) j dX9_layer_52 kd_31 (by omega) ln_31 rfl (by omega) rfl ?_
      refine go_iret dX9_layer_53 rfl rfl ⟨_, rfl, ?_⟩
      rw [sel_at 0 (by omega) rfl] at hQ
      exact hQ
    · skip
      by_cases s3 : a = 1
      · refine go_tblIn (tgt := 54) dX9_layer_15 (by omega) (by omega) (by rw [s3]; rfl) rfl ?_
        refine go_aload_n 0 dX9_layer_54 rfl rfl ?_
        refine go_getR (r := 30) dX9_layer_55 lk9_29.get kd_0 (by omega) rfl (pp_0_3 w) ?_
        refine go_getR (r := 32) dX9_layer_58 lk9_176 kd_30 (by omega) rfl (pp_30_2 w) ?_
        refine go_iload_n 1 dX9_layer_61 rfl rfl ?_
        refine gx_iaload (v := (M 32 j)) j dX9_layer_62 kd_32 (by omega) ln_32 rfl (by omega) rfl ?_
        refine go_iret dX9_layer_63 rfl rfl ⟨_, rfl, ?_⟩
        rw [sel_at 1 (by omega) rfl] at hQ
        exact hQ
      · skip
        by_cases s4 : a = 2
        · refine go_tblIn (tgt := 64) dX9_layer_15 (by omega) (by omega) (by rw [s4]; rfl) rfl ?_
          refine go_aload_n 0 dX9_layer_64 rfl rfl ?_
          refine go_getR (r := 30) dX9_layer_65 lk9_29.get kd_0 (by omega) rfl (pp_0_3 w) ?_
          refine go_iload_n 1 dX9_layer_68 rfl rfl ?_
          refine go_callVI (av := [vI ((j : Nat) : Int)]) (st := []) (a := 30) (mc2 := 0) (ms2 := 0) dX9_layer_69 cw9_179 (by decide) rfl rfl (Nat.le_of_ble_eq_true rfl) rfl rfl kd_30 ⟨_, _, rfl⟩ (by decide) (by omega) (ok_X6_worthOf (k := j) On_30 (by rw [hL.1]; omega) (by omega) (hL.2.2.1 j (by omega)) ?_)
          refine go_iret dX9_layer_72 rfl rfl ⟨_, rfl, ?_⟩
          rw [sel_at 2 (by omega) rfl] at hQ
          exact hQ
        · skip
          by_cases s5 : a = 3
          · refine go_tblIn (tgt := 73) dX9_layer_15 (by omega) (by omega) (by rw [s5]; rfl) rfl ?_
            refine go_aload_n 0 dX9_layer_73 rfl rfl ?_
            refine go_getR (r := 30) dX9_layer_74 lk9_29.get kd_0 (by omega) rfl (pp_0_3 w) ?_
            refine go_iload_n 1 dX9_layer_77 rfl rfl ?_
            refine go_callVI (av := [vI ((j : Nat) : Int)]) (st := []) (a := 30) (mc2 := 0) (ms2 := 0) dX9_layer_78 cw9_182 (by decide) rfl rfl (Nat.le_of_ble_eq_true rfl) rfl rfl kd_30 ⟨_, _, rfl⟩ (by decide) (by omega) (ok_X6_stingOf (k := j) On_30 (by rw [hL.1]; omega) (by omega) (hL.2.2.1 j (by omega)) ?_)
            refine go_iret dX9_layer_81 rfl rfl ⟨_, rfl, ?_⟩
            rw [sel_at 3 (by omega) rfl] at hQ
            exact hQ
          · skip
            refine go_tblOut (tgt := 82) dX9_layer_15 (by omega) rfl ?_
            refine go_ldc dX9_layer_82 ik9_75 (by decide) ?_
            refine go_iret dX9_layer_84 rfl rfl ⟨_, rfl, ?_⟩
            rw [sel_out 4 rfl (by omega)] at hQ
            exact hQ
  · exact absurd c1 (by omega)

set_option maxHeartbeats 4000000 in
set_option maxRecDepth 100000 in
theorem ok_X9_layer_out {w L : Nat} {M : inm} {j : Nat} {k a : Int} {Q : Int → Nat → rfm → inm → Prop} (hL : Lay M 30 L) (hk : ¬ (0 ≤ k ∧ k < (L : Int))) (hQ : Q (-1000000001) 303 (PP w) M) : OkI yX9_layer cX9_layer 3 2 0 0 (some .int) [vR 0, vI k, vI a] 303 (PP w) M Q := by
  refine OkI.of (by decide +kernel) (by decide +kernel) (Nat.le_of_ble_eq_true rfl) ?_
  refine go_eq (lv' := [(0, vR 0), (1, vI k), (2, vI a)]) rfl rfl rfl rfl rfl ?_
  refine go_aload_n 0 dX9_layer_0 rfl rfl ?_
  refine go_getR (r := 30) dX9_layer_1 lk9_29.get kd_0 (by omega) rfl (pp_0_3 w) ?_
  refine go_iload_n 1 dX9_layer_4 rfl rfl ?_
  refine go_callVI (av := [vI k]) (st := []) (a := 30) (mc2 := 0) (ms2 := 0) dX9_layer_5 cw9_168 (by decide) rfl rfl (Nat.le_of_ble_eq_true rfl) rfl rfl kd_30 ⟨_, _, rfl⟩ (by decide) (by omega) (ok_X6_hasLayer On_30 (fun q1 q2 => absurd ⟨q1, by rw [hL.1] at q2; exact q2⟩ hk) (fun _ => ?_))
  refine go_if_ne (tgt := 14) dX9_layer_8 rfl (fun c1 => ?_) (fun c1 => ?_)
  · exact absurd rfl c1
  · refine go_ldc dX9_layer_11 ik9_172 (by decide) ?_
    refine go_iret dX9_layer_13 rfl rfl ⟨_, rfl, ?_⟩
    exact hQ

set_option maxHeartbeats 4000000 in
set_option maxRecDepth 100000 in
theorem ok_X9_executor_in {w E : Nat} {M : inm} {j : Nat} {k a : Int} {Q : Int → Nat → rfm → inm → Prop} (hw : Cs w) (hE : M w 3 = (E : Int) ∧ E ≤ 5) (hj : j < E) (hQ : Q (sel [M (w + 3) j, M (w + 4) j, M 33 j, M 34 j, M 35 j] a (-1000000002)) 303 (PP w) M) : OkI yX9_executor cX9_executor 3 1 0 0 (some .int) [vR 0, vI ((j : Nat) : Int), vI a] 303 (PP w) M Q := by
  refine OkI.of (by decide +kernel) (by decide +kernel) (Nat.le_of_ble_eq_true rfl) ?_
  refine go_eq (lv' := [(0, vR 0), (1, vI ((j : Nat) : Int)), (2, vI a)]) rfl rfl rfl rfl rfl ?_
  have hE5 := hE.2
  refine go_aload_n 0 dX9_executor_0 rfl rfl ?_
  refine go_getR (r := w) dX9_executor_1 lk9_19.get kd_0 (by omega) rfl (pp_0_1 w) ?_
  refine go_iload_n 1 dX9_executor_4 rfl rfl ?_
  refine go_callVI (av := [vI ((j : Nat) : Int)]) (st := []) (a := w) (mc2 := 0) (ms2 := 0) dX9_executor_5 cw9_185 (by decide) rfl rfl (Nat.le_of_ble_eq_true rfl) rfl rfl hw.k0 ⟨_, _, rfl⟩ (by decide) hw.l0 (ok_X1_hasExecutor hw (fun _ _ => ?_) (fun h => absurd ⟨by omega, by rw [hE.1]; omega⟩ h))
  refine go_if_ne (tgt := 14) dX9_executor_8 rfl (fun c1 => ?_) (fun c1 => ?_)
  · refine go_iload_n 2 dX9_executor_14 rfl rfl ?_
    by_cases s2 : a = 0
    · refine go_tblIn (tgt := 48) dX9_executor_15 (by omega) (by omega) (by rw [s2]; rfl) rfl ?_
      refine go_aload_n 0 dX9_executor_48 rfl rfl ?_
      refine go_getR (r := w) dX9_executor_49 lk9_19.get kd_0 (by omega) rfl (pp_0_1 w) ?_
      refine go_getR (r := (w + 3)) dX9_executor_52 lk9_188 hw.k0 hw.l0 rfl (hw.p7 _) ?_
      refine go_iload_n 1 dX9_executor_55 rfl rfl ?_
      refine gx_iaload (v := (M (w + 3) j)) j dX9_executor_56 hw.k3 (hw.l (by omega)) hw.n3 rfl (by omega) rfl ?_
      refine go_iret dX9_executor_57 rfl rfl ⟨_, rfl, ?_⟩
      rw [sel_at 0 (by omega) rfl] at hQ
      exact hQ
    · skip
      by_cases s3 : a = 1
      · refine go_tblIn (tgt := 58) dX9_executor_15 (by omega) (by omega) (by rw [s3]; rfl) rfl ?_
        refine go_aload_n 0 dX9_executor_58 rfl rfl ?_
        refine go_getR (r := w) dX9_executor_59 lk9_19.get kd_0 (by omega) rfl (pp_0_1 w) ?_
        refine go_getR (r := (w + 4)) dX9_executor_62 lk9_191 hw.k0 hw.l0 rfl (hw.p8 _) ?_
        refine go_iload_n 1 dX9_executor_65 rfl rfl ?_
        refine gx_iaload (v := (M (w + 4) j)) j dX9_executor_66 hw.k4 (hw.l (by omega)) hw.n4 rfl (by omega) rfl ?_
        refine go_iret dX9_executor_67 rfl rfl ⟨_, rfl, ?_⟩
        rw [sel_at 1 (by omega) rfl] at hQ
        exact hQ
      · skip
        by_cases s4 : a = 2
        · refine go_tblIn (tgt := 68) dX9_executor_15 (by omega) (by omega) (by rw [s4]; rfl) rfl ?_
          refine go_aload_n 0 dX9_executor_68 rfl rfl ?_
          refine go_getR (r := 30) dX9_executor_69 lk9_29.get kd_0 (by omega) rfl (pp_0_3 w) ?_
          refine go_getR (r := 33) dX9_executor_72 lk9_149 kd_30 (by omega) rfl (pp_30_3 w) ?_
          refine go_iload_n 1 dX9_executor_75 rfl rfl ?_
          refine gx_iaload (v := (M 33 j)) j dX9_executor_76 kd_33 (by omega) ln_33 rfl (by omega) rfl ?_
          refine go_iret dX9_executor_77 rfl rfl ⟨_, rfl, ?_⟩
          rw [sel_at 2 (by omega) rfl] at hQ
          exact hQ
        · skip
          by_cases s5 : a = 3
          · refine go_tblIn (tgt := 78) dX9_executor_15 (by omega) (by omega) (by rw [s5]; rfl) rfl ?_
            refine go_aload_n 0 dX9_executor_78 rfl rfl ?_
            refine go_getR (r := 30) dX9_executor_79 lk9_29.get kd_0 (by omega) rfl (pp_0_3 w) ?_
            refine go_getR (r := 34) dX9_executor_82 lk9_194 kd_30 (by omega) rfl (pp_30_4 w) ?_
            refine go_iload_n 1 dX9_executor_85 rfl rfl ?_
            refine gx_iaload (v := (M 34 j)) j dX9_executor_86 kd_34 (by omega) ln_34 rfl (by omega) rfl ?_
            refine go_iret dX9_executor_87 rfl rfl ⟨_, rfl, ?_⟩
            rw [sel_at 3 (by omega) rfl] at hQ
            exact hQ
          · skip
            by_cases s6 : a = 4
            · refine go_tblIn (tgt := 88) dX9_executor_15 (by omega) (by omega) (by rw [s6]; rfl) rfl ?_
              refine go_aload_n 0 dX9_executor_88 rfl rfl ?_
              refine go_getR (r := 30) dX9_executor_89 lk9_29.get kd_0 (by omega) rfl (pp_0_3 w) ?_
              refine go_getR (r := 35) dX9_executor_92 lk9_197 kd_30 (by omega) rfl (pp_30_5 w) ?_
              refine go_iload_n 1 dX9_executor_95 rfl rfl ?_
              refine gx_iaload (v := (M 35 j)) j dX9_executor_96 kd_35 (by omega) ln_35 rfl (by omega) rfl ?_
              refine go_iret dX9_executor_97 rfl rfl ⟨_, rfl, ?_⟩
              rw [sel_at 4 (by omega) rfl] at hQ
              exact hQ
            · skip
              refine go_tblOut (tgt := 98) dX9_executor_15 (by omega) rfl ?_
              refine go_ldc dX9_executor_98 ik9_75 (by decide) ?_
              refine go_iret dX9_executor_100 rfl rfl ⟨_, rfl, ?_⟩
              rw [sel_out 5 rfl (by omega)] at hQ
              exact hQ
  · exact absurd c1 (by omega)

set_option maxHeartbeats 4000000 in
set_option maxRecDepth 100000 in
theorem ok_X9_executor_out {w E : Nat} {M : inm} {j : Nat} {k a : Int} {Q : Int → Nat → rfm → inm → Prop} (hw : Cs w) (hE : M w 3 = (E : Int) ∧ E ≤ 5) (hk : ¬ (0 ≤ k ∧ k < (E : Int))) (hQ : Q (-1000000001) 303 (PP w) M) : OkI yX9_executor cX9_executor 3 1 0 0 (some .int) [vR 0, vI k, vI a] 303 (PP w) M Q := by
  refine OkI.of (by decide +kernel) (by decide +kernel) (Nat.le_of_ble_eq_true rfl) ?_
  refine go_eq (lv' := [(0, vR 0), (1, vI k), (2, vI a)]) rfl rfl rfl rfl rfl ?_
  refine go_aload_n 0 dX9_executor_0 rfl rfl ?_
  refine go_getR (r := w) dX9_executor_1 lk9_19.get kd_0 (by omega) rfl (pp_0_1 w) ?_
  refine go_iload_n 1 dX9_executor_4 rfl rfl ?_
  refine go_callVI (av := [vI k]) (st := []) (a := w) (mc2 := 0) (ms2 := 0) dX9_executor_5 cw9_185 (by decide) rfl rfl (Nat.le_of_ble_eq_true rfl) rfl rfl hw.k0 ⟨_, _, rfl⟩ (by decide) hw.l0 (ok_X1_hasExecutor hw (fun q1 q2 => absurd ⟨q1, by rw [hE.1] at q2; exact q2⟩ hk) (fun _ => ?_))
  refine go_if_ne (tgt := 14) dX9_executor_8 rfl (fun c1 => ?_) (fun c1 => ?_)
  · exact absurd rfl c1
  · refine go_ldc dX9_executor_11 ik9_172 (by decide) ?_
    refine go_iret dX9_executor_13 rfl rfl ⟨_, rfl, ?_⟩
    exact hQ

set_option maxHeartbeats 4000000 in
set_option maxRecDepth 100000 in
theorem ok_X9_type_in {w T j i : Nat} {lt : Nat → Nat} {M : inm} {Q : Int → Nat → rfm → inm → Prop} (hw : Cs w) (hT : Tys M w T lt) (hj : j < T) (hi : i < 8) (hQ : Q (kindV lt (fun t k => M (w + 7 + t) k) j i) 303 (PP w) M) : OkI yX9_type cX9_type 3 1 0 0 (some .int) [vR 0, vI ((j : Nat) : Int), vI ((i : Nat) : Int)] 303 (PP w) M Q := by
  refine OkI.of (by decide +kernel) (by decide +kernel) (Nat.le_of_ble_eq_true rfl) ?_
  refine go_eq (lv' := [(0, vR 0), (1, vI ((j : Nat) : Int)), (2, vI ((i : Nat) : Int))]) rfl rfl rfl rfl rfl ?_
  refine go_iload_n 1 dX9_type_0 rfl rfl ?_
  refine go_if_lt (tgt := 15) dX9_type_1 rfl (fun c1 => ?_) (fun c1 => ?_)
  · exact absurd c1 (by omega)
  · refine go_iload_n 1 dX9_type_4 rfl rfl ?_
    refine go_aload_n 0 dX9_type_5 rfl rfl ?_
    refine go_getR (r := w) dX9_type_6 lk9_19.get kd_0 (by omega) rfl (pp_0_1 w) ?_
    refine gx_getI (v := ((T : Nat) : Int)) dX9_type_9 lk9_114.get hw.k0 hw.l0 rfl hT.1 ?_
    refine go_icmp_lt (tgt := 18) dX9_type_12 rfl (fun c2 => ?_) (fun c2 => ?_)
    · refine go_iload_n 2 dX9_type_18 rfl rfl ?_
      refine go_if_lt (tgt := 28) dX9_type_19 rfl (fun c3 => ?_) (fun c3 => ?_)
      · exact absurd c3 (by omega)
      · refine go_iload_n 2 dX9_type_22 rfl rfl ?_
        refine go_bipush dX9_type_23 (by decide) (by decide) ?_
        refine go_icmp_lt (tgt := 31) dX9_type_25 rfl (fun c4 => ?_) (fun c4 => ?_)
        · refine go_aload_n 0 dX9_type_31 rfl rfl ?_
          refine go_getR (r := w) dX9_type_32 lk9_19.get kd_0 (by omega) rfl (pp_0_1 w) ?_
          refine go_iload_n 1 dX9_type_35 rfl rfl ?_
          refine go_iload_n 2 dX9_type_36 rfl rfl ?_
          refine go_callVI (av := [vI ((j : Nat) : Int), vI ((i : Nat) : Int)]) (st := []) (a := w) (mc2 := 0) (ms2 := 0) dX9_type_37 cw9_200 (by decide) rfl rfl (Nat.le_of_ble_eq_true rfl) rfl rfl hw.k0 ⟨_, _, rfl⟩ (by decide) hw.l0 (ok_X1_kindOfType (t := j) (k := i) hw hT (by omega) ?_)
          refine go_iret dX9_type_40 rfl rfl ⟨_, rfl, ?_⟩
          exact hQ
        · exact absurd c4 (by omega)
    · exact absurd c2 (by omega)

set_option maxHeartbeats 4000000 in
set_option maxRecDepth 100000 in
theorem ok_X9_type_out {w T : Nat} {lt : Nat → Nat} {M : inm} {k a : Int} {Q : Int → Nat → rfm → inm → Prop} (hw : Cs w) (hT : Tys M w T lt) (hk : ¬ ((0 ≤ k ∧ k < (T : Int)) ∧ 0 ≤ a ∧ a < 8)) (h0 : ¬ (0 ≤ k ∧ k < (T : Int)) → Q (-1000000001) 303 (PP w) M) (h1 : (0 ≤ k ∧ k < (T : Int)) → ¬ (0 ≤ a ∧ a < 8) → Q (-1000000002) 303 (PP w) M) : OkI yX9_type cX9_type 3 1 0 0 (some .int) [vR 0, vI k, vI a] 303 (PP w) M Q := by
  refine OkI.of (by decide +kernel) (by decide +kernel) (Nat.le_of_ble_eq_true rfl) ?_
  refine go_eq (lv' := [(0, vR 0), (1, vI k), (2, vI a)]) rfl rfl rfl rfl rfl ?_
  refine go_iload_n 1 dX9_type_0 rfl rfl ?_
  refine go_if_lt (tgt := 15) dX9_type_1 rfl (fun c1 => ?_) (fun c1 => ?_)
  · refine go_ldc dX9_type_15 ik9_172 (by decide) ?_
    refine go_iret dX9_type_17 rfl rfl ⟨_, rfl, ?_⟩
    first | exact h0 (by omega) | exact h1 (by omega) (by omega)
  · refine go_iload_n 1 dX9_type_4 rfl rfl ?_
    refine go_aload_n 0 dX9_type_5 rfl rfl ?_
    refine go_getR (r := w) dX9_type_6 lk9_19.get kd_0 (by omega) rfl (pp_0_1 w) ?_
    refine gx_getI (v := ((T : Nat) : Int)) dX9_type_9 lk9_114.get hw.k0 hw.l0 rfl hT.1 ?_
    refine go_icmp_lt (tgt := 18) dX9_type_12 rfl (fun c2 => ?_) (fun c2 => ?_)
    · refine go_iload_n 2 dX9_type_18 rfl rfl ?_
      refine go_if_lt (tgt := 28) dX9_type_19 rfl (fun c3 => ?_) (fun c3 => ?_)
      · refine go_ldc dX9_type_28 ik9_75 (by decide) ?_
        refine go_iret dX9_type_30 rfl rfl ⟨_, rfl, ?_⟩
        first | exact h0 (by omega) | exact h1 (by omega) (by omega)
      · refine go_iload_n 2 dX9_type_22 rfl rfl ?_
        refine go_bipush dX9_type_23 (by decide) (by decide) ?_
        refine go_icmp_lt (tgt := 31) dX9_type_25 rfl (fun c4 => ?_) (fun c4 => ?_)
        · exfalso; omega
        · refine go_ldc dX9_type_28 ik9_75 (by decide) ?_
          refine go_iret dX9_type_30 rfl rfl ⟨_, rfl, ?_⟩
          first | exact h0 (by omega) | exact h1 (by omega) (by omega)
    · refine go_ldc dX9_type_15 ik9_172 (by decide) ?_
      refine go_iret dX9_type_17 rfl rfl ⟨_, rfl, ?_⟩
      first | exact h0 (by omega) | exact h1 (by omega) (by omega)

set_option maxHeartbeats 4000000 in
set_option maxRecDepth 100000 in
theorem ok_X9_logged_in {w n j i : Nat} {M : inm} {Q : Int → Nat → rfm → inm → Prop} (hn : M 30 7 = (n : Int) ∧ n ≤ 20) (hj : j < n) (hi : i < 4) (hQ : Q (M 36 (j * 4 + i)) 303 (PP w) M) : OkI yX9_logged cX9_logged 3 0 0 0 (some .int) [vR 0, vI ((j : Nat) : Int), vI ((i : Nat) : Int)] 303 (PP w) M Q := by
  refine OkI.of (by decide +kernel) (by decide +kernel) (Nat.le_of_ble_eq_true rfl) ?_
  refine go_eq (lv' := [(0, vR 0), (1, vI ((j : Nat) : Int)), (2, vI ((i : Nat) : Int))]) rfl rfl rfl rfl rfl ?_
  refine go_iload_n 2 dX9_logged_0 rfl rfl ?_
  refine go_if_lt (tgt := 9) dX9_logged_1 rfl (fun c1 => ?_) (fun c1 => ?_)
  · exact absurd c1 (by omega)
  · refine go_iload_n 2 dX9_logged_4 rfl rfl ?_
    refine go_iconst dX9_logged_5 (by decide) ?_
    refine go_icmp_lt (tgt := 12) dX9_logged_6 rfl (fun c2 => ?_) (fun c2 => ?_)
    · refine go_iload_n 1 dX9_logged_12 rfl rfl ?_
      refine go_if_lt (tgt := 27) dX9_logged_13 rfl (fun c3 => ?_) (fun c3 => ?_)
      · exact absurd c3 (by omega)
      · refine go_iload_n 1 dX9_logged_16 rfl rfl ?_
        refine go_aload_n 0 dX9_logged_17 rfl rfl ?_
        refine go_getR (r := 30) dX9_logged_18 lk9_29.get kd_0 (by omega) rfl (pp_0_3 w) ?_
        refine gx_getI (v := ((n : Nat) : Int)) dX9_logged_21 lk9_164.get kd_30 (by omega) rfl hn.1 ?_
        refine go_icmp_lt (tgt := 29) dX9_logged_24 rfl (fun c4 => ?_) (fun c4 => ?_)
        · refine go_aload_n 0 dX9_logged_29 rfl rfl ?_
          refine go_getR (r := 30) dX9_logged_30 lk9_29.get kd_0 (by omega) rfl (pp_0_3 w) ?_
          refine go_getR (r := 36) dX9_logged_33 lk9_204 kd_30 (by omega) rfl (pp_30_6 w) ?_
          refine go_iload_n 1 dX9_logged_36 rfl rfl ?_
          refine go_iconst dX9_logged_37 (by decide) ?_
          refine gx_imul (v := ((j * 4 : Nat) : Int)) dX9_logged_38 (by omega) ⟨by omega, by omega⟩ ?_
          refine go_iload_n 2 dX9_logged_39 rfl rfl ?_
          refine gx_iadd (v := (((j * 4) + i : Nat) : Int)) dX9_logged_40 (by omega) ⟨by omega, by omega⟩ ?_
          refine gx_iaload (v := (M 36 ((j * 4) + i))) ((j * 4) + i) dX9_logged_41 kd_36 (by omega) ln_36 rfl (by omega) rfl ?_
          refine go_iret dX9_logged_42 rfl rfl ⟨_, rfl, ?_⟩
          exact hQ
        · exact absurd c4 (by omega)
    · exact absurd c2 (by omega)

set_option maxHeartbeats 4000000 in
set_option maxRecDepth 100000 in
theorem ok_X9_logged_out {w n : Nat} {M : inm} {k a : Int} {Q : Int → Nat → rfm → inm → Prop} (hn : M 30 7 = (n : Int) ∧ n ≤ 20) (hk : ¬ ((0 ≤ k ∧ k < (n : Int)) ∧ 0 ≤ a ∧ a < 4)) (h0 : ¬ (0 ≤ a ∧ a < 4) → Q (-1000000002) 303 (PP w) M) (h1 : (0 ≤ a ∧ a < 4) → ¬ (0 ≤ k ∧ k < (n : Int)) → Q (-1) 303 (PP w) M) : OkI yX9_logged cX9_logged 3 0 0 0 (some .int) [vR 0, vI k, vI a] 303 (PP w) M Q := by
  refine OkI.of (by decide +kernel) (by decide +kernel) (Nat.le_of_ble_eq_true rfl) ?_
  refine go_eq (lv' := [(0, vR 0), (1, vI k), (2, vI a)]) rfl rfl rfl rfl rfl ?_
  refine go_iload_n 2 dX9_logged_0 rfl rfl ?_
  refine go_if_lt (tgt := 9) dX9_logged_1 rfl (fun c1 => ?_) (fun c1 => ?_)
  · refine go_ldc dX9_logged_9 ik9_75 (by decide) ?_
    refine go_iret dX9_logged_11 rfl rfl ⟨_, rfl, ?_⟩
    first | exact h0 (by omega) | exact h1 (by omega) (by omega)
  · refine go_iload_n 2 dX9_logged_4 rfl rfl ?_
    refine go_iconst dX9_logged_5 (by decide) ?_
    refine go_icmp_lt (tgt := 12) dX9_logged_6 rfl (fun c2 => ?_) (fun c2 => ?_)
    · refine go_iload_n 1 dX9_logged_12 rfl rfl ?_
      refine go_if_lt (tgt := 27) dX9_logged_13 rfl (fun c3 => ?_) (fun c3 => ?_)
      · refine go_iconst dX9_logged_27 (by decide) ?_
        refine go_iret dX9_logged_28 rfl rfl ⟨_, rfl, ?_⟩
        first | exact h0 (by omega) | exact h1 (by omega) (by omega)
      · refine go_iload_n 1 dX9_logged_16 rfl rfl ?_
        refine go_aload_n 0 dX9_logged_17 rfl rfl ?_
        refine go_getR (r := 30) dX9_logged_18 lk9_29.get kd_0 (by omega) rfl (pp_0_3 w) ?_
        refine gx_getI (v := ((n : Nat) : Int)) dX9_logged_21 lk9_164.get kd_30 (by omega) rfl hn.1 ?_
        refine go_icmp_lt (tgt := 29) dX9_logged_24 rfl (fun c4 => ?_) (fun c4 => ?_)
        · exfalso; omega
        · refine go_iconst dX9_logged_27 (by decide) ?_
          refine go_iret dX9_logged_28 rfl rfl ⟨_, rfl, ?_⟩
          first | exact h0 (by omega) | exact h1 (by omega) (by omega)
    · refine go_ldc dX9_logged_9 ik9_75 (by decide) ?_
      refine go_iret dX9_logged_11 rfl rfl ⟨_, rfl, ?_⟩
      first | exact h0 (by omega) | exact h1 (by omega) (by omega)

set_option maxHeartbeats 4000000 in
set_option maxRecDepth 100000 in
theorem ok_X9_worthIt_in {w E L : Nat} {M : inm} {j : Nat} {k a : Int} {Q : Int → Nat → rfm → inm → Prop} (hw : Cs w) (hE : M w 3 = (E : Int) ∧ E ≤ 5) (hL : Lay M 30 L) (hca : ∀ e, e < E → 0 ≤ M (w + 3) e ∧ M (w + 3) e ≤ 9) (hj : j < E) (hQ : Q (sel [(fo (bestG (gainF (fun j => M 31 j) (fun j => M 32 j) (M (w + 3) j))) L (0, 0)).1, 1000 + sumTo (gainF (fun j => M 31 j) (fun j => M 32 j) (M (w + 3) j)) (fo (bestG (gainF (fun j => M 31 j) (fun j => M 32 j) (M (w + 3) j))) L (0, 0)).1.toNat] a (-1000000002)) 303 (PP w) M) : OkI yX9_worthIt cX9_worthIt 3 4 0 0 (some .int) [vR 0, vI ((j : Nat) : Int), vI a] 303 (PP w) M Q := by
  refine OkI.of (by decide +kernel) (by decide +kernel) (Nat.le_of_ble_eq_true rfl) ?_
  refine go_eq (lv' := [(0, vR 0), (1, vI ((j : Nat) : Int)), (2, vI a)]) rfl rfl rfl rfl rfl ?_
  have hL12 := hL.2.1
  have hE5 := hE.2
  have hbi := best_in (c := fun j => M 31 j) (t := fun j => M 32 j) (hca j hj) L hL12 hL.2.2.1
  have hgi := gain_in (c := fun j => M 31 j) (t := fun j => M 32 j) (hca j hj) (fo (bestG (gainF (fun j => M 31 j) (fun j => M 32 j) (M (w + 3) j))) L (0, 0)).1.toNat (fun i hi => hL.2.2.1 i (by omega))
  have hbn : (fo (bestG (gainF (fun j => M 31 j) (fun j => M 32 j) (M (w + 3) j))) L (0, 0)).1 = (((fo (bestG (gainF (fun j => M 31 j) (fun j => M 32 j) (M (w + 3) j))) L (0, 0)).1.toNat : Nat) : Int) := by omega
  refine go_aload_n 0 dX9_worthIt_0 rfl rfl ?_
  refine go_getR (r := w) dX9_worthIt_1 lk9_19.get kd_0 (by omega) rfl (pp_0_1 w) ?_
  refine go_iload_n 1 dX9_worthIt_4 rfl rfl ?_
  refine go_callVI (av := [vI ((j : Nat) : Int)]) (st := []) (a := w) (mc2 := 0) (ms2 := 0) dX9_worthIt_5 cw9_185 (by decide) rfl rfl (Nat.le_of_ble_eq_true rfl) rfl rfl hw.k0 ⟨_, _, rfl⟩ (by decide) hw.l0 (ok_X1_hasExecutor hw (fun _ _ => ?_) (fun h => absurd ⟨by omega, by rw [hE.1]; omega⟩ h))
  refine go_if_ne (tgt := 14) dX9_worthIt_8 rfl (fun c1 => ?_) (fun c1 => ?_)
  · refine go_iload_n 2 dX9_worthIt_14 rfl rfl ?_
    by_cases s2 : a = 0
    · refine go_look (tgt := 40) dX9_worthIt_15 (by decide) (by first | (rw [s2]; done) | (rw [s2]; rfl)) rfl ?_
      refine go_aload_n 0 dX9_worthIt_40 rfl rfl ?_
      refine go_getR (r := 30) dX9_worthIt_41 lk9_29.get kd_0 (by omega) rfl (pp_0_3 w) ?_
      refine go_aload_n 0 dX9_worthIt_44 rfl rfl ?_
      refine go_getR (r := w) dX9_worthIt_45 lk9_19.get kd_0 (by omega) rfl (pp_0_1 w) ?_
      refine go_getR (r := (w + 3)) dX9_worthIt_48 lk9_188 hw.k0 hw.l0 rfl (hw.p7 _) ?_
      refine go_iload_n 1 dX9_worthIt_51 rfl rfl ?_
      refine gx_iaload (v := (M (w + 3) j)) j dX9_worthIt_52 hw.k3 (hw.l (by omega)) hw.n3 rfl (by omega) rfl ?_
      refine go_callSI (av := [vR 30, vI (M (w + 3) j)]) (st := []) (mc2 := 0) (ms2 := 0) dX9_worthIt_53 cw9_235 (by decide) rfl rfl (Nat.le_of_ble_eq_true rfl) rfl rfl (ok_X8_bestPeels On_30 hL (hca j (by omega)) ?_)
      rw [hbn]
      refine go_iret dX9_worthIt_56 rfl rfl ⟨_, rfl, ?_⟩
      rw [sel_at 0 (by omega) rfl] at hQ
      rw [← hbn]
      exact hQ
    · skip
      by_cases s3 : a = 1
      · refine go_look (tgt := 57) dX9_worthIt_15 (by decide) (by first | (rw [s3]; done) | (rw [s3]; rfl)) rfl ?_
        refine go_sipush dX9_worthIt_57 (by decide) (by decide) ?_
        refine go_aload_n 0 dX9_worthIt_60 rfl rfl ?_
        refine go_getR (r := 30) dX9_worthIt_61 lk9_29.get kd_0 (by omega) rfl (pp_0_3 w) ?_
        refine go_aload_n 0 dX9_worthIt_64 rfl rfl ?_
        refine go_getR (r := w) dX9_worthIt_65 lk9_19.get kd_0 (by omega) rfl (pp_0_1 w) ?_
        refine go_getR (r := (w + 3)) dX9_worthIt_68 lk9_188 hw.k0 hw.l0 rfl (hw.p7 _) ?_
        refine go_iload_n 1 dX9_worthIt_71 rfl rfl ?_
        refine gx_iaload (v := (M (w + 3) j)) j dX9_worthIt_72 hw.k3 (hw.l (by omega)) hw.n3 rfl (by omega) rfl ?_
        refine go_aload_n 0 dX9_worthIt_73 rfl rfl ?_
        refine go_getR (r := 30) dX9_worthIt_74 lk9_29.get kd_0 (by omega) rfl (pp_0_3 w) ?_
        refine go_aload_n 0 dX9_worthIt_77 rfl rfl ?_
        refine go_getR (r := w) dX9_worthIt_78 lk9_19.get kd_0 (by omega) rfl (pp_0_1 w) ?_
        refine go_getR (r := (w + 3)) dX9_worthIt_81 lk9_188 hw.k0 hw.l0 rfl (hw.p7 _) ?_
        refine go_iload_n 1 dX9_worthIt_84 rfl rfl ?_
        refine gx_iaload (v := (M (w + 3) j)) j dX9_worthIt_85 hw.k3 (hw.l (by omega)) hw.n3 rfl (by omega) rfl ?_
        refine go_callSI (av := [vR 30, vI (M (w + 3) j)]) (st := [vI (M (w + 3) j), vR 30, vI 1000]) (mc2 := 0) (ms2 := 0) dX9_worthIt_86 cw9_235 (by decide) rfl rfl (Nat.le_of_ble_eq_true rfl) rfl rfl (ok_X8_bestPeels On_30 hL (hca j (by omega)) ?_)
        rw [hbn]
        refine go_callSI (av := [vR 30, vI (M (w + 3) j), vI (((fo (bestG (gainF (fun j => M 31 j) (fun j => M 32 j) (M (w + 3) j))) L (0, 0)).1.toNat : Nat) : Int)]) (st := [vI 1000]) (mc2 := 0) (ms2 := 0) dX9_worthIt_89 cw9_239 (by decide) rfl rfl (Nat.le_of_ble_eq_true rfl) rfl rfl (ok_X8_gainOf (n := (fo (bestG (gainF (fun j => M 31 j) (fun j => M 32 j) (M (w + 3) j))) L (0, 0)).1.toNat) On_30 hL (hca j (by omega)) (by omega) ?_)
        refine gx_iadd (v := (1000 + (sumTo (gainF (fun j => M 31 j) (fun j => M 32 j) (M (w + 3) j)) (fo (bestG (gainF (fun j => M 31 j) (fun j => M 32 j) (M (w + 3) j))) L (0, 0)).1.toNat))) dX9_worthIt_92 rfl ⟨by omega, by omega⟩ ?_
        refine go_iret dX9_worthIt_93 rfl rfl ⟨_, rfl, ?_⟩
        rw [sel_at 1 (by omega) rfl] at hQ
        exact hQ
      · skip
        refine go_look (tgt := 94) dX9_worthIt_15 (by decide) (by first | (rw [look_miss s2, look_miss s3]; done) | (rw [look_miss s2, look_miss s3]; rfl)) rfl ?_
        refine go_ldc dX9_worthIt_94 ik9_75 (by decide) ?_
        refine go_iret dX9_worthIt_96 rfl rfl ⟨_, rfl, ?_⟩
        rw [sel_out 2 rfl (by omega)] at hQ
        exact hQ
  · exact absurd c1 (by omega)

set_option maxHeartbeats 4000000 in
set_option maxRecDepth 100000 in
theorem ok_X9_worthIt_out {w E L : Nat} {M : inm} {j : Nat} {k a : Int} {Q : Int → Nat → rfm → inm → Prop} (hw : Cs w) (hE : M w 3 = (E : Int) ∧ E ≤ 5) (hL : Lay M 30 L) (hca : ∀ e, e < E → 0 ≤ M (w + 3) e ∧ M (w + 3) e ≤ 9) (hk : ¬ (0 ≤ k ∧ k < (E : Int))) (hQ : Q (-1000000001) 303 (PP w) M) : OkI yX9_worthIt cX9_worthIt 3 4 0 0 (some .int) [vR 0, vI k, vI a] 303 (PP w) M Q := by
  refine OkI.of (by decide +kernel) (by decide +kernel) (Nat.le_of_ble_eq_true rfl) ?_
  refine go_eq (lv' := [(0, vR 0), (1, vI k), (2, vI a)]) rfl rfl rfl rfl rfl ?_
  refine go_aload_n 0 dX9_worthIt_0 rfl rfl ?_
  refine go_getR (r := w) dX9_worthIt_1 lk9_19.get kd_0 (by omega) rfl (pp_0_1 w) ?_
  refine go_iload_n 1 dX9_worthIt_4 rfl rfl ?_
  refine go_callVI (av := [vI k]) (st := []) (a := w) (mc2 := 0) (ms2 := 0) dX9_worthIt_5 cw9_185 (by decide) rfl rfl (Nat.le_of_ble_eq_true rfl) rfl rfl hw.k0 ⟨_, _, rfl⟩ (by decide) hw.l0 (ok_X1_hasExecutor hw (fun q1 q2 => absurd ⟨q1, by rw [hE.1] at q2; exact q2⟩ hk) (fun _ => ?_))
  refine go_if_ne (tgt := 14) dX9_worthIt_8 rfl (fun c1 => ?_) (fun c1 => ?_)
  · exact absurd rfl c1
  · refine go_ldc dX9_worthIt_11 ik9_172 (by decide) ?_
    refine go_iret dX9_worthIt_13 rfl rfl ⟨_, rfl, ?_⟩
    exact hQ

set_option maxHeartbeats 4000000 in
set_option maxRecDepth 100000 in
theorem ok_X9_parts_in {w L n : Nat} {M : inm} {a : Int} {Q : Int → Nat → rfm → inm → Prop} (hL : Lay M 30 L) (hn : 1 ≤ n ∧ n ≤ 5 ∧ n ≤ L) (ha : 0 ≤ a ∧ a ≤ 1) (h0 : a = 0 → ∀ M' : inm, Sc M M' → Q (PWF (sumTo (fun j => sting (M 31 j) (M 32 j))) L (n - 1) 0) 303 (PP w) M') (h1 : ¬ a = 0 → ∀ M' : inm, Sc M M' → Q ((FFp (sumTo (fun j => sting (M 31 j) (M 32 j))) L (n - 1) : Nat) : Int) 303 (PP w) M') : OkI yX9_parts cX9_parts 4 4 0 0 (some .int) [vR 0, vI ((n : Nat) : Int), vI a] 303 (PP w) M Q := by
  refine OkI.of (by decide +kernel) (by decide +kernel) (Nat.le_of_ble_eq_true rfl) ?_
  refine go_eq (lv' := [(0, vR 0), (1, vI ((n : Nat) : Int)), (2, vI a)]) rfl rfl rfl rfl rfl ?_
  refine go_iload_n 1 dX9_parts_0 rfl rfl ?_
  refine go_iconst dX9_parts_1 (by decide) ?_
  refine go_icmp_lt (tgt := 19) dX9_parts_2 rfl (fun c1 => ?_) (fun c1 => ?_)
  · exact absurd c1 (by omega)
  · refine go_iload_n 1 dX9_parts_5 rfl rfl ?_
    refine go_iconst dX9_parts_6 (by decide) ?_
    refine go_icmp_gt (tgt := 19) dX9_parts_7 rfl (fun c2 => ?_) (fun c2 => ?_)
    · exact absurd c2 (by omega)
    · refine go_iload_n 2 dX9_parts_10 rfl rfl ?_
      refine go_if_lt (tgt := 19) dX9_parts_11 rfl (fun c3 => ?_) (fun c3 => ?_)
      · exact absurd c3 (by omega)
      · refine go_iload_n 2 dX9_parts_14 rfl rfl ?_
        refine go_iconst dX9_parts_15 (by decide) ?_
        refine go_icmp_le (tgt := 22) dX9_parts_16 rfl (fun c4 => ?_) (fun c4 => ?_)
        · refine go_aload_n 0 dX9_parts_22 rfl rfl ?_
          refine go_getR (r := 30) dX9_parts_23 lk9_29.get kd_0 (by omega) rfl (pp_0_3 w) ?_
          refine gx_getI (v := ((L : Nat) : Int)) dX9_parts_26 lk9_102.get kd_30 (by omega) rfl hL.1 ?_
          refine go_iload_n 1 dX9_parts_29 rfl rfl ?_
          refine go_icmp_ge (tgt := 35) dX9_parts_30 rfl (fun c5 => ?_) (fun c5 => ?_)
          · refine go_aload_n 0 dX9_parts_35 rfl rfl ?_
            refine go_getR (r := 273) dX9_parts_36 lk9_64.get kd_0 (by omega) rfl (pp_0_8 w) ?_
            refine go_aload_n 0 dX9_parts_39 rfl rfl ?_
            refine go_getR (r := 30) dX9_parts_40 lk9_29.get kd_0 (by omega) rfl (pp_0_3 w) ?_
            refine go_iload_n 1 dX9_parts_43 rfl rfl ?_
            refine go_callVI (av := [vR 30, vI ((n : Nat) : Int)]) (st := []) (a := 273) (mc2 := 0) (ms2 := 0) dX9_parts_44 cw9_243 (by decide) rfl rfl (Nat.le_of_ble_eq_true rfl) rfl rfl kd_273 ⟨_, _, rfl⟩ (by decide) (by omega) (ok_X8_partUp (n := n) On_30 hL (by omega) (fun M' hs hr => ?_))
            refine go_istore_n (lv' := [(3, vI ((FFp (sumTo (fun j => sting (M 31 j) (M 32 j))) L (n - 1) : Nat) : Int)), (0, vR 0), (1, vI ((n : Nat) : Int)), (2, vI a)]) dX9_parts_47 rfl (by decide) rfl ?_
            refine go_iload_n 3 dX9_parts_48 rfl rfl ?_
            refine go_if_ne (tgt := 64) dX9_parts_49 rfl (fun c6 => ?_) (fun c6 => ?_)
            · refine go_iload_n 0 dX9_parts_64 rfl rfl ?_
              refine go_iret dX9_parts_65 rfl rfl ⟨_, rfl, ?_⟩
              first | (exact h0 (by omega) M' hs) | (exact h1 (by omega) M' hs)
            · refine go_aload_n 1 dX9_parts_52 rfl rfl ?_
              refine go_getR (r := 273) dX9_parts_53 lk9_64.get kd_0 (by omega) rfl (pp_0_8 w) ?_
              refine go_getR (r := 274) dX9_parts_56 lk9_246 kd_273 (by omega) rfl (pp_273_0 w) ?_
              refine go_iconst dX9_parts_59 (by decide) ?_
              refine gx_iaload (v := (PWF (sumTo (fun j => sting (M 31 j) (M 32 j))) L (n - 1) 0)) 0 dX9_parts_60 kd_274 (by omega) ln_274 (by omega) (by omega) hr ?_
              refine go_goto (tgt := 65) dX9_parts_61 rfl ?_
              refine go_iret dX9_parts_65 rfl rfl ⟨_, rfl, ?_⟩
              first | (exact h0 (by omega) M' hs) | (exact h1 (by omega) M' hs)
          · exact absurd c5 (by omega)
        · exact absurd c4 (by omega)

set_option maxHeartbeats 4000000 in
set_option maxRecDepth 100000 in
theorem ok_X9_parts_out {w L : Nat} {M : inm} {k a : Int} {Q : Int → Nat → rfm → inm → Prop} (hL : Lay M 30 L) (hk : ¬ ((1 ≤ k ∧ k ≤ 5 ∧ 0 ≤ a ∧ a ≤ 1) ∧ k ≤ (L : Int))) (h0 : ¬ (1 ≤ k ∧ k ≤ 5 ∧ 0 ≤ a ∧ a ≤ 1) → Q (-1000000002) 303 (PP w) M) (h1 : (1 ≤ k ∧ k ≤ 5 ∧ 0 ≤ a ∧ a ≤ 1) → (L : Int) < k → Q (-1) 303 (PP w) M) : OkI yX9_parts cX9_parts 4 4 0 0 (some .int) [vR 0, vI k, vI a] 303 (PP w) M Q := by
  refine OkI.of (by decide +kernel) (by decide +kernel) (Nat.le_of_ble_eq_true rfl) ?_
  refine go_eq (lv' := [(0, vR 0), (1, vI k), (2, vI a)]) rfl rfl rfl rfl rfl ?_
  refine go_iload_n 1 dX9_parts_0 rfl rfl ?_
  refine go_iconst dX9_parts_1 (by decide) ?_
  refine go_icmp_lt (tgt := 19) dX9_parts_2 rfl (fun c1 => ?_) (fun c1 => ?_)
  · refine go_ldc dX9_parts_19 ik9_75 (by decide) ?_
    refine go_iret dX9_parts_21 rfl rfl ⟨_, rfl, ?_⟩
    first | exact h0 (by omega) | exact h1 (by omega) (by omega)
  · refine go_iload_n 1 dX9_parts_5 rfl rfl ?_
    refine go_iconst dX9_parts_6 (by decide) ?_
    refine go_icmp_gt (tgt := 19) dX9_parts_7 rfl (fun c2 => ?_) (fun c2 => ?_)
    · refine go_ldc dX9_parts_19 ik9_75 (by decide) ?_
      refine go_iret dX9_parts_21 rfl rfl ⟨_, rfl, ?_⟩
      first | exact h0 (by omega) | exact h1 (by omega) (by omega)
    · refine go_iload_n 2 dX9_parts_10 rfl rfl ?_
      refine go_if_lt (tgt := 19) dX9_parts_11 rfl (fun c3 => ?_) (fun c3 => ?_)
      · refine go_ldc dX9_parts_19 ik9_75 (by decide) ?_
        refine go_iret dX9_parts_21 rfl rfl ⟨_, rfl, ?_⟩
        first | exact h0 (by omega) | exact h1 (by omega) (by omega)
      · refine go_iload_n 2 dX9_parts_14 rfl rfl ?_
        refine go_iconst dX9_parts_15 (by decide) ?_
        refine go_icmp_le (tgt := 22) dX9_parts_16 rfl (fun c4 => ?_) (fun c4 => ?_)
        · refine go_aload_n 0 dX9_parts_22 rfl rfl ?_
          refine go_getR (r := 30) dX9_parts_23 lk9_29.get kd_0 (by omega) rfl (pp_0_3 w) ?_
          refine gx_getI (v := ((L : Nat) : Int)) dX9_parts_26 lk9_102.get kd_30 (by omega) rfl hL.1 ?_
          refine go_iload_n 1 dX9_parts_29 rfl rfl ?_
          refine go_icmp_ge (tgt := 35) dX9_parts_30 rfl (fun c5 => ?_) (fun c5 => ?_)
          · exfalso; omega
          · refine go_iconst dX9_parts_33 (by decide) ?_
            refine go_iret dX9_parts_34 rfl rfl ⟨_, rfl, ?_⟩
            first | exact h0 (by omega) | exact h1 (by omega) (by omega)
        · refine go_ldc dX9_parts_19 ik9_75 (by decide) ?_
          refine go_iret dX9_parts_21 rfl rfl ⟨_, rfl, ?_⟩
          first | exact h0 (by omega) | exact h1 (by omega) (by omega)

set_option maxHeartbeats 4000000 in
set_option maxRecDepth 100000 in
theorem ok_X9_byTurns {w L : Nat} {M : inm} {a : Int} {Q : Int → Nat → rfm → inm → Prop} (hL : Lay M 30 L) (hb : ¬ (0 ≤ a ∧ a ≤ 1) → Q (-1000000002) 303 (PP w) M) (h0 : a = 0 → ∀ M' : inm, Sc M M' → Q (1000 + (btS (fun j => worth (M 31 j) (M 32 j)) L L).1) 303 (PP w) M') (h1 : a = 1 → ∀ M' : inm, Sc M M' → Q (btS (fun j => worth (M 31 j) (M 32 j)) L L).2.2 303 (PP w) M') : OkI yX9_byTurns cX9_byTurns 3 3 0 0 (some .int) [vR 0, vI a] 303 (PP w) M Q := by
  refine OkI.of (by decide +kernel) (by decide +kernel) (Nat.le_of_ble_eq_true rfl) ?_
  refine go_eq (lv' := [(0, vR 0), (1, vI a)]) rfl rfl rfl rfl rfl ?_
  have hL12 := hL.2.1
  have hbt := bt_in (W := (fun j => worth (M 31 j) (M 32 j))) (L := L) (fun j hj => by have h9 := hL.2.2.1 j hj; have h8 := worth_in (c := M 31 j) h9.1; exact ⟨h8.1, Int.le_trans h8.2 (by have : M 32 j ≤ 20 := h9.2; show 2 * M 32 j ≤ 40; omega)⟩) L (Nat.le_refl L)
  refine go_iload_n 1 dX9_byTurns_0 rfl rfl ?_
  refine go_if_lt (tgt := 9) dX9_byTurns_1 rfl (fun c1 => ?_) (fun c1 => ?_)
  · refine go_ldc dX9_byTurns_9 ik9_75 (by decide) ?_
    refine go_iret dX9_byTurns_11 rfl rfl ⟨_, rfl, ?_⟩
    first | exact hb (by omega) | (exact h0 (by omega) M' hs) | (exact h1 (by omega) M' hs)
  · refine go_iload_n 1 dX9_byTurns_4 rfl rfl ?_
    refine go_iconst dX9_byTurns_5 (by decide) ?_
    refine go_icmp_le (tgt := 12) dX9_byTurns_6 rfl (fun c2 => ?_) (fun c2 => ?_)
    · refine go_aload_n 0 dX9_byTurns_12 rfl rfl ?_
      refine go_getR (r := 273) dX9_byTurns_13 lk9_64.get kd_0 (by omega) rfl (pp_0_8 w) ?_
      refine go_aload_n 0 dX9_byTurns_16 rfl rfl ?_
      refine go_getR (r := 30) dX9_byTurns_17 lk9_29.get kd_0 (by omega) rfl (pp_0_3 w) ?_
      refine go_callVI (av := [vR 30]) (st := []) (a := 273) (mc2 := 0) (ms2 := 0) dX9_byTurns_20 cw9_249 (by decide) rfl rfl (Nat.le_of_ble_eq_true rfl) rfl rfl kd_273 ⟨_, _, rfl⟩ (by decide) (by omega) (ok_X8_playByTurns On_30 hL (fun M' hs hr => ?_))
      refine go_istore_n (lv' := [(2, vI ((btS (fun j => worth (M 31 j) (M 32 j)) L L).2.2)), (0, vR 0), (1, vI a)]) dX9_byTurns_23 rfl (by decide) rfl ?_
      refine go_iload_n 2 dX9_byTurns_24 rfl rfl ?_
      refine go_if_ne (tgt := 44) dX9_byTurns_25 rfl (fun c3 => ?_) (fun c3 => ?_)
      · refine go_iload_n 0 dX9_byTurns_44 rfl rfl ?_
        refine go_iret dX9_byTurns_45 rfl rfl ⟨_, rfl, ?_⟩
        first | exact hb (by omega) | (exact h0 (by omega) M' hs) | (exact h1 (by omega) M' hs)
      · refine go_sipush dX9_byTurns_28 (by decide) (by decide) ?_
        refine go_aload_n 1 dX9_byTurns_31 rfl rfl ?_
        refine go_getR (r := 273) dX9_byTurns_32 lk9_64.get kd_0 (by omega) rfl (pp_0_8 w) ?_
        refine go_getR (r := 274) dX9_byTurns_35 lk9_246 kd_273 (by omega) rfl (pp_273_0 w) ?_
        refine go_iconst dX9_byTurns_38 (by decide) ?_
        refine gx_iaload (v := (btS (fun j => worth (M 31 j) (M 32 j)) L L).1) 0 dX9_byTurns_39 kd_274 (by omega) ln_274 (by omega) (by omega) hr ?_
        refine gx_iadd (v := (1000 + (btS (fun j => worth (M 31 j) (M 32 j)) L L).1)) dX9_byTurns_40 rfl ⟨by omega, by omega⟩ ?_
        refine go_goto (tgt := 45) dX9_byTurns_41 rfl ?_
        refine go_iret dX9_byTurns_45 rfl rfl ⟨_, rfl, ?_⟩
        first | exact hb (by omega) | (exact h0 (by omega) M' hs) | (exact h1 (by omega) M' hs)
    · refine go_ldc dX9_byTurns_9 ik9_75 (by decide) ?_
      refine go_iret dX9_byTurns_11 rfl rfl ⟨_, rfl, ?_⟩
      first | exact hb (by omega) | (exact h0 (by omega) M' hs) | (exact h1 (by omega) M' hs)

set_option maxHeartbeats 4000000 in
set_option maxRecDepth 100000 in
theorem ok_X9_twoSides {w L : Nat} {M : inm} {a : Int} {Q : Int → Nat → rfm → inm → Prop} (hL : Lay M 30 L) (hQ : Q (sel [sumTo (fun j => worth (M 31 j) (M 32 j)) (L - L / 2) - sumTo (fun j => worth (M 31 j) (M 32 j)) 0, sumTo (fun j => worth (M 31 j) (M 32 j)) L - sumTo (fun j => worth (M 31 j) (M 32 j)) (L - L / 2), if L = 0 then -1 else ((L / 2 : Nat) : Int)] a (-1000000002)) 303 (PP w) M) : OkI yX9_twoSides cX9_twoSides 3 3 0 0 (some .int) [vR 0, vI a] 303 (PP w) M Q := by
  refine OkI.of (by decide +kernel) (by decide +kernel) (Nat.le_of_ble_eq_true rfl) ?_
  refine go_eq (lv' := [(0, vR 0), (1, vI a)]) rfl rfl rfl rfl rfl ?_
  have hL12 := hL.2.1
  refine go_aload_n 0 dX9_twoSides_0 rfl rfl ?_
  refine go_getR (r := 30) dX9_twoSides_1 lk9_29.get kd_0 (by omega) rfl (pp_0_3 w) ?_
  refine gx_getI (v := ((L : Nat) : Int)) dX9_twoSides_4 lk9_102.get kd_30 (by omega) rfl hL.1 ?_
  refine go_aload_n 0 dX9_twoSides_7 rfl rfl ?_
  refine go_getR (r := 30) dX9_twoSides_8 lk9_29.get kd_0 (by omega) rfl (pp_0_3 w) ?_
  refine gx_getI (v := ((L : Nat) : Int)) dX9_twoSides_11 lk9_102.get kd_30 (by omega) rfl hL.1 ?_
  refine go_iconst dX9_twoSides_14 (by decide) ?_
  refine gx_idiv (v := ((L / 2 : Nat) : Int)) dX9_twoSides_15 (by omega) (by omega) (by omega) ?_
  refine gx_isub (v := ((L - L / 2 : Nat) : Int)) dX9_twoSides_16 (by omega) ⟨by omega, by omega⟩ ?_
  refine go_istore_n (lv' := [(2, vI ((L - L / 2 : Nat) : Int)), (0, vR 0), (1, vI a)]) dX9_twoSides_17 rfl (by decide) rfl ?_
  refine go_iload_n 2 dX9_twoSides_18 rfl rfl ?_
  by_cases s1 : a = 0
  · refine go_tblIn (tgt := 44) dX9_twoSides_19 (by omega) (by omega) (by rw [s1]; rfl) rfl ?_
    refine go_aload_n 1 dX9_twoSides_44 rfl rfl ?_
    refine go_getR (r := 30) dX9_twoSides_45 lk9_29.get kd_0 (by omega) rfl (pp_0_3 w) ?_
    refine go_iconst dX9_twoSides_48 (by decide) ?_
    refine go_iload_n 0 dX9_twoSides_49 rfl rfl ?_
    refine go_callVI (av := [vI 0, vI ((L - L / 2 : Nat) : Int)]) (st := []) (a := 30) (mc2 := 0) (ms2 := 0) dX9_twoSides_50 cw9_252 (by decide) rfl rfl (Nat.le_of_ble_eq_true rfl) rfl rfl kd_30 ⟨_, _, rfl⟩ (by decide) (by omega) (ok_X6_worthBetween (f := 0) (g := L - L / 2) On_30 hL (by omega) (by omega) ?_)
    refine go_iret dX9_twoSides_53 rfl rfl ⟨_, rfl, ?_⟩
    rw [sel_at 0 (by omega) rfl] at hQ
    exact hQ
  · skip
    by_cases s2 : a = 1
    · refine go_tblIn (tgt := 54) dX9_twoSides_19 (by omega) (by omega) (by rw [s2]; rfl) rfl ?_
      refine go_aload_n 1 dX9_twoSides_54 rfl rfl ?_
      refine go_getR (r := 30) dX9_twoSides_55 lk9_29.get kd_0 (by omega) rfl (pp_0_3 w) ?_
      refine go_iload_n 0 dX9_twoSides_58 rfl rfl ?_
      refine go_aload_n 1 dX9_twoSides_59 rfl rfl ?_
      refine go_getR (r := 30) dX9_twoSides_60 lk9_29.get kd_0 (by omega) rfl (pp_0_3 w) ?_
      refine gx_getI (v := ((L : Nat) : Int)) dX9_twoSides_63 lk9_102.get kd_30 (by omega) rfl hL.1 ?_
      refine go_callVI (av := [vI ((L - L / 2 : Nat) : Int), vI ((L : Nat) : Int)]) (st := []) (a := 30) (mc2 := 0) (ms2 := 0) dX9_twoSides_66 cw9_252 (by decide) rfl rfl (Nat.le_of_ble_eq_true rfl) rfl rfl kd_30 ⟨_, _, rfl⟩ (by decide) (by omega) (ok_X6_worthBetween (f := L - L / 2) (g := L) On_30 hL (by omega) (by omega) ?_)
      refine go_iret dX9_twoSides_69 rfl rfl ⟨_, rfl, ?_⟩
      rw [sel_at 1 (by omega) rfl] at hQ
      exact hQ
    · skip
      by_cases s3 : a = 2
      · refine go_tblIn (tgt := 70) dX9_twoSides_19 (by omega) (by omega) (by rw [s3]; rfl) rfl ?_
        refine go_aload_n 1 dX9_twoSides_70 rfl rfl ?_
        refine go_getR (r := 30) dX9_twoSides_71 lk9_29.get kd_0 (by omega) rfl (pp_0_3 w) ?_
        refine gx_getI (v := ((L : Nat) : Int)) dX9_twoSides_74 lk9_102.get kd_30 (by omega) rfl hL.1 ?_
        refine go_if_ne (tgt := 84) dX9_twoSides_77 rfl (fun c4 => ?_) (fun c4 => ?_)
        · refine go_aload_n 1 dX9_twoSides_84 rfl rfl ?_
          refine go_getR (r := 30) dX9_twoSides_85 lk9_29.get kd_0 (by omega) rfl (pp_0_3 w) ?_
          refine gx_getI (v := ((L : Nat) : Int)) dX9_twoSides_88 lk9_102.get kd_30 (by omega) rfl hL.1 ?_
          refine go_iconst dX9_twoSides_91 (by decide) ?_
          refine gx_idiv (v := ((L / 2 : Nat) : Int)) dX9_twoSides_92 (by omega) (by omega) (by omega) ?_
          refine go_iret dX9_twoSides_93 rfl rfl ⟨_, rfl, ?_⟩
          rw [sel_at 2 (by omega) rfl] at hQ
          first | (rw [if_pos (by omega)] at hQ; exact hQ) | (rw [if_neg (by omega)] at hQ; exact hQ)
        · refine go_iconst dX9_twoSides_80 (by decide) ?_
          refine go_goto (tgt := 93) dX9_twoSides_81 rfl ?_
          refine go_iret dX9_twoSides_93 rfl rfl ⟨_, rfl, ?_⟩
          rw [sel_at 2 (by omega) rfl] at hQ
          first | (rw [if_pos (by omega)] at hQ; exact hQ) | (rw [if_neg (by omega)] at hQ; exact hQ)
      · skip
        refine go_tblOut (tgt := 94) dX9_twoSides_19 (by omega) rfl ?_
        refine go_ldc dX9_twoSides_94 ik9_75 (by decide) ?_
        refine go_iret dX9_twoSides_96 rfl rfl ⟨_, rfl, ?_⟩
        rw [sel_out 3 rfl (by omega)] at hQ
        exact hQ

