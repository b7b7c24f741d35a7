/-! ===== the law: its loop, its start ===== -/
set_option maxHeartbeats 4000000 in
set_option maxRecDepth 100000 in
theorem law_go {S : Nat × (Nat → Int32)} {Q : Post} (hS : S.1 ≤ 256) (hQ : ∀ n P M, Q (some (vI 1)) n P M) : ∀ (d k w U : Nat) (M : inm), S.1 + 4 ≤ 4 * k + d → 4 * k ≤ S.1 + 3 → Rel M M w U → U ≤ 60 * k → Go S yL_law cL_law 4 9 0 0 (some .boolean) 18 [(3, vI ((4 * k : Nat) : Int)), (1, vR 0), (2, vR 279), (0, vS)] [] 303 (PP w) M Q := by
  intro d
  induction d with
  | zero => intro k w U M h1 h2; exfalso; omega
  | succ d ih =>
    intro k w U M h1 h2 h hU
    refine go_iload_n 0 dL_law_18 rfl rfl ?_
    refine go_aload_nS 3 dL_law_19 rfl rfl ?_
    refine go_slen dL_law_20 rfl (by omega) ?_
    refine go_iconst dL_law_21 (by decide) ?_
    refine gx_isub (v := ((S.1 : Nat) : Int) - 4) dL_law_22 rfl ⟨by omega, by omega⟩ ?_
    refine go_icmp_gt (tgt := 980) dL_law_23 rfl (fun c1 => ?_) (fun c1 => ?_)
    · refine go_iconst dL_law_980 (by decide) ?_
      exact go_iret dL_law_981 rfl rfl (hQ _ _ _)
    · have hi : 4 * k + 4 ≤ S.1 := by omega
      have hn : ∀ (w2 U2 : Nat) (M2 : inm), Rel M2 M2 w2 U2 → U2 ≤ U + 60 → Go S yL_law cL_law 4 9 0 0 (some .boolean) 974 [(3, vI ((4 * k : Nat) : Int)), (1, vR 0), (2, vR 279), (0, vS)] [] 303 (PP w2) M2 Q := fun w2 U2 M2 h2 hu => by
        refine gx_iinc (v := ((4 * (k + 1) : Nat) : Int)) (lv' := [(3, vI ((4 * (k + 1) : Nat) : Int)), (1, vR 0), (2, vR 279), (0, vS)]) 0 dL_law_974 rfl (by omega) ⟨by omega, by omega⟩ (by decide) rfl ?_
        refine go_goto (tgt := 18) dL_law_977 rfl ?_
        exact ih (k + 1) w2 U2 M2 (by omega) (by omega) h2 (by omega)
      refine go_aload_nS 3 dL_law_26 rfl rfl ?_
      refine go_iload_n 0 dL_law_27 rfl rfl ?_
      refine go_sload dL_law_28 rfl (by omega) (by omega) ?_
      refine go_bipush dL_law_29 (by decide) (by decide) ?_
      refine go_imask dL_law_31 5 (by decide) (by decide) ?_
      have hb : 0 ≤ (S.2 ((4 * k : Nat) : Int).toNat).toInt % ((2 ^ 5 : Nat) : Int) ∧ (S.2 ((4 * k : Nat) : Int).toNat).toInt % ((2 ^ 5 : Nat) : Int) < 32 := ⟨Int.emod_nonneg _ (by decide), Int.emod_lt_of_pos _ (by decide)⟩
      generalize (S.2 ((4 * k : Nat) : Int).toNat).toInt % ((2 ^ 5 : Nat) : Int) = X at hb ⊢
      have hd : X = 0 ∨ X = 1 ∨ X = 2 ∨ X = 3 ∨ X = 4 ∨ X = 5 ∨ X = 6 ∨ X = 7 ∨ X = 8 ∨ X = 9 ∨ X = 10 ∨ X = 11 ∨ X = 12 ∨ X = 13 ∨ X = 14 ∨ X = 15 ∨ X = 16 ∨ X = 17 ∨ X = 18 ∨ X = 19 ∨ X = 20 ∨ X = 21 ∨ X = 22 ∨ X = 23 ∨ X = 24 ∨ X = 25 ∨ X = 26 ∨ X = 27 ∨ X = 28 ∨ X = 29 ∨ X = 30 ∨ X = 31 := by omega
      rcases hd with rfl | rfl | rfl | rfl | rfl | rfl | rfl | rfl | rfl | rfl | rfl | rfl | rfl | rfl | rfl | rfl | rfl | rfl | rfl | rfl | rfl | rfl | rfl | rfl | rfl | rfl | rfl | rfl | rfl | rfl | rfl | rfl
      · refine go_tblIn (tgt := 176) dL_law_32 (by decide) (by decide) rfl rfl ?_
        exact law_0 hS hi h (by omega) hn
      · refine go_tblIn (tgt := 199) dL_law_32 (by decide) (by decide) rfl rfl ?_
        exact law_1 hS hi h (by omega) hn
      · refine go_tblIn (tgt := 212) dL_law_32 (by decide) (by decide) rfl rfl ?_
        exact law_2 hS hi h (by omega) hn
      · refine go_tblIn (tgt := 225) dL_law_32 (by decide) (by decide) rfl rfl ?_
        exact law_3 hS hi h (by omega) hn
      · refine go_tblIn (tgt := 248) dL_law_32 (by decide) (by decide) rfl rfl ?_
        exact law_4 hS hi h (by omega) hn
      · refine go_tblIn (tgt := 281) dL_law_32 (by decide) (by decide) rfl rfl ?_
        exact law_5 hS hi h (by omega) hn
      · refine go_tblIn (tgt := 314) dL_law_32 (by decide) (by decide) rfl rfl ?_
        exact law_6 hS hi h (by omega) hn
      · refine go_tblIn (tgt := 347) dL_law_32 (by decide) (by decide) rfl rfl ?_
        exact law_7 hS hi h (by omega) hn
      · refine go_tblIn (tgt := 380) dL_law_32 (by decide) (by decide) rfl rfl ?_
        exact law_8 hS hi h (by omega) hn
      · refine go_tblIn (tgt := 403) dL_law_32 (by decide) (by decide) rfl rfl ?_
        exact law_9 hS hi h (by omega) hn
      · refine go_tblIn (tgt := 442) dL_law_32 (by decide) (by decide) rfl rfl ?_
        exact law_10 hS hi h (by omega) hn
      · refine go_tblIn (tgt := 455) dL_law_32 (by decide) (by decide) rfl rfl ?_
        exact law_11 hS hi h (by omega) hn
      · refine go_tblIn (tgt := 478) dL_law_32 (by decide) (by decide) rfl rfl ?_
        exact law_12 hS hi h (by omega) hn
      · refine go_tblIn (tgt := 501) dL_law_32 (by decide) (by decide) rfl rfl ?_
        exact law_13 hS hi h (by omega) hn
      · refine go_tblIn (tgt := 524) dL_law_32 (by decide) (by decide) rfl rfl ?_
        exact law_14 hS hi h (by omega) hn
      · refine go_tblIn (tgt := 557) dL_law_32 (by decide) (by decide) rfl rfl ?_
        exact law_15 hS hi h (by omega) hn
      · refine go_tblIn (tgt := 590) dL_law_32 (by decide) (by decide) rfl rfl ?_
        exact law_16 hS hi h (by omega) hn
      · refine go_tblIn (tgt := 613) dL_law_32 (by decide) (by decide) rfl rfl ?_
        exact law_17 hS hi h (by omega) hn
      · refine go_tblIn (tgt := 636) dL_law_32 (by decide) (by decide) rfl rfl ?_
        exact law_18 hS hi h (by omega) hn
      · refine go_tblIn (tgt := 659) dL_law_32 (by decide) (by decide) rfl rfl ?_
        exact law_19 hS hi h (by omega) hn
      · refine go_tblIn (tgt := 682) dL_law_32 (by decide) (by decide) rfl rfl ?_
        exact law_20 hS hi h (by omega) hn
      · refine go_tblIn (tgt := 705) dL_law_32 (by decide) (by decide) rfl rfl ?_
        exact law_21 hS hi h (by omega) hn
      · refine go_tblIn (tgt := 728) dL_law_32 (by decide) (by decide) rfl rfl ?_
        exact law_22 hS hi h (by omega) hn
      · refine go_tblIn (tgt := 761) dL_law_32 (by decide) (by decide) rfl rfl ?_
        exact law_23 hS hi h (by omega) hn
      · refine go_tblIn (tgt := 820) dL_law_32 (by decide) (by decide) rfl rfl ?_
        exact law_24 hS hi h (by omega) hn
      · refine go_tblIn (tgt := 833) dL_law_32 (by decide) (by decide) rfl rfl ?_
        exact law_25 hS hi h (by omega) hn
      · refine go_tblIn (tgt := 846) dL_law_32 (by decide) (by decide) rfl rfl ?_
        exact law_26 hS hi h (by omega) hn
      · refine go_tblIn (tgt := 879) dL_law_32 (by decide) (by decide) rfl rfl ?_
        exact law_27 hS hi h (by omega) hn
      · refine go_tblIn (tgt := 892) dL_law_32 (by decide) (by decide) rfl rfl ?_
        exact law_28 hS hi h (by omega) hn
      · refine go_tblIn (tgt := 905) dL_law_32 (by decide) (by decide) rfl rfl ?_
        exact law_29 hS hi h (by omega) hn
      · refine go_tblIn (tgt := 928) dL_law_32 (by decide) (by decide) rfl rfl ?_
        exact law_30 hS hi h (by omega) hn
      · refine go_tblIn (tgt := 951) dL_law_32 (by decide) (by decide) rfl rfl ?_
        exact law_31 hS hi h (by omega) hn

theorem M9_z {y j : Nat} (h1 : y ≠ 1 ∨ j ≠ 5) (h2 : (y ≠ 4 ∧ y ≠ 17) ∨ j ≠ 1) (h3 : j ≠ 11) : M9 y j = 0 := by
  unfold M9 mDe
  refine (up2_ne (by omega)).trans ((up2_ne (by omega)).trans ?_)
  rw [if_neg (by omega)]
  exact (up2_ne (by omega)).trans ((up2_ne (by omega)).trans ((up2_ne (by omega)).trans (up2_ne (by omega))))
theorem M9_hi {y j : Nat} (h : 266 ≤ y) : M9 y j = 0 := by
  unfold M9 mDe
  refine (up2_ne (by omega)).trans ((up2_ne (by omega)).trans ?_)
  rw [if_neg (by omega)]
  exact (up2_ne (by omega)).trans ((up2_ne (by omega)).trans ((up2_ne (by omega)).trans (up2_ne (by omega))))
theorem M9_11 (y : Nat) : -1 ≤ M9 y 11 ∧ M9 y 11 ≤ 4 := by
  unfold M9 mDe up2
  dsimp only
  repeat' split
  all_goals omega
theorem M9_30 : M9 30 11 = -1 := by decide
theorem M9_15 : M9 1 5 = -1 := by decide
/-- where both begin -/
theorem rel_start : Rel (rEmp M10) (rEmp M10) 4 0 := by
  have f0 : ∀ y j, y < 279 → rEmp M10 y j = M9 y j := fun y j hy => (rEmp_out (by omega)).trans (up2_ne (by omega))
  have fz : ∀ y j, y < 279 → (y ≠ 1 ∨ j ≠ 5) → ((y ≠ 4 ∧ y ≠ 17) ∨ j ≠ 1) → j ≠ 11 → rEmp M10 y j = 0 := fun y j h0 h1 h2 h3 => (f0 y j h0).trans (M9_z h1 h2 h3)
  have g0 : ∀ y j, 279 ≤ y → y ≠ 284 → (y ≠ 279 ∨ j ≠ 19) → rEmp M10 y j = 0 := fun y j h0 h1 h2 => (rEmp_out h1).trans ((up2_ne (by omega)).trans (M9_hi (by omega)))
  have g19 : rEmp M10 279 19 = -1 := (rEmp_out (by omega)).trans up2_same
  have gn : ∀ j, j < 125 → j ≠ 28 → rEmp M10 284 j = 0 := fun j h1 h2 => by
    unfold rEmp
    exact (up2_ne (by omega)).trans (ov_in h1)
  have g28 : rEmp M10 284 28 = -1 := by unfold rEmp; exact up2_same
  have hb : ∀ a, 30 ≤ a → a + 6 < 279 → Bd (rEmp M10) a 0 := fun a h1 h2 => by
    refine ⟨fun e he => ?_, fun e he => ?_, fun e he => ?_, ?_, ?_, ?_, ?_, ?_, by omega⟩
    · rw [fz _ _ (by omega) (by omega) (by omega) (by omega)]; omega
    · rw [fz _ _ (by omega) (by omega) (by omega) (by omega)]; omega
    · rw [fz _ _ (by omega) (by omega) (by omega) (by omega)]; omega
    · rw [fz _ _ (by omega) (by omega) (by omega) (by omega)]; omega
    · rw [fz _ _ (by omega) (by omega) (by omega) (by omega)]; omega
    · rw [f0 _ _ (by omega)]; exact M9_11 a
    · exact Or.inl (fz _ _ (by omega) (by omega) (by omega) (by omega))
    · exact Or.inl (fz _ _ (by omega) (by omega) (by omega) (by omega))
  generalize rEmp M10 = F at *
  refine ⟨0, 0, fun _ => 0, 0, 0, 0, 0, Or.inl rfl, by omega, ⟨⟨0, fz 1 2 (by omega) (by omega) (by omega) (by omega), g0 279 18 (by omega) (by omega) (by omega), by omega, fun j => ?_⟩, ?_⟩, ⟨⟨?_, ?_, ?_, fun _ => rfl⟩, ⟨fz 4 3 (by omega) (by omega) (by omega) (by omega), g0 279 2 (by omega) (by omega) (by omega), by omega⟩, fun e he => absurd he (by omega), ⟨fz 4 4 (by omega) (by omega) (by omega) (by omega), g0 279 5 (by omega) (by omega) (by omega), by omega⟩, fun t ht => absurd ht (by omega)⟩, ⟨⟨fz 30 0 (by omega) (by omega) (by omega) (by omega), gn 0 (by omega) (by omega), by omega⟩, fun j hj => absurd hj (by omega), fun e he => ?_, ⟨?_, ?_, ?_, ?_⟩, fz 30 7 (by omega) (by omega) (by omega) (by omega), gn 44 (by omega) (by omega), by omega, fun i q hi => absurd hi (by omega)⟩, ⟨hb 30 (by omega) (by omega), fun i hi => hb _ (by omega) (by omega), hb 251 (by omega) (by omega), hb 259 (by omega) (by omega)⟩, ⟨⟨fz 37 1 (by omega) (by omega) (by omega) (by omega), by omega⟩, ⟨fz 37 2 (by omega) (by omega) (by omega) (by omega), g0 279 33 (by omega) (by omega) (by omega), by omega⟩, fun i i1 i2 => absurd i2 (by omega)⟩, fun i hi => ?_, ⟨0, fz 266 3 (by omega) (by omega) (by omega) (by omega), g0 279 13 (by omega) (by omega) (by omega), by omega, fun _ => 0, fun i hi => absurd hi (by omega)⟩, ⟨0, fz 270 2 (by omega) (by omega) (by omega) (by omega), g0 279 10 (by omega) (by omega) (by omega), by omega, fun i hi => absurd hi (by omega)⟩, ?_⟩
  · have e1 : F 2 j = 0 := by
      by_cases hj : j = 11
      · subst hj
        rw [f0 _ _ (by omega)]
        decide
      · exact fz 2 j (by omega) (by omega) (by omega) hj
    rw [e1, g0 290 j (by omega) (by omega) (by omega)]
    omega
  · rw [f0 1 5 (by omega), g19]
    exact M9_15
  · exact Or.inl (fz 4 0 (by omega) (by omega) (by omega) (by omega))
  · rw [g0 279 0 (by omega) (by omega) (by omega), fz 4 0 (by omega) (by omega) (by omega) (by omega)]
  · rw [fz 4 0 (by omega) (by omega) (by omega) (by omega)]
    intro q
    exact absurd q (by decide)
  · show F 33 e = _ ∧ F 34 e = _ ∧ F 35 e = _
    rw [fz 33 e (by omega) (by omega) (by omega) (by omega), fz 34 e (by omega) (by omega) (by omega) (by omega), fz 35 e (by omega) (by omega) (by omega) (by omega), gn _ (by omega) (by omega), gn _ (by omega) (by omega), gn _ (by omega) (by omega)]
    exact ⟨rfl, rfl, rfl⟩
  · show F 30 8 = _
    rw [fz 30 8 (by omega) (by omega) (by omega) (by omega), gn _ (by omega) (by omega)]
  · show F 30 9 = _
    rw [fz 30 9 (by omega) (by omega) (by omega) (by omega), gn _ (by omega) (by omega)]
  · show F 284 27 = if F 30 10 = 0 then 0 else F 4 1
    rw [fz 30 10 (by omega) (by omega) (by omega) (by omega), gn _ (by omega) (by omega), if_pos rfl]
  · show F 30 11 = _
    rw [f0 30 11 (by omega), g28]
    exact M9_30
  · have hi2 : i = 0 ∨ i = 1 := by omega
    rcases hi2 with rfl | rfl
    · show (F 250 0 = F 302 0 ∧ _) ∧ (¬ F 302 0 = 0 → _)
      rw [fz 250 0 (by omega) (by omega) (by omega) (by omega), g0 302 0 (by omega) (by omega) (by omega)]
      exact ⟨⟨rfl, Or.inl rfl⟩, fun q => absurd rfl q⟩
    · show (F 258 0 = F 302 1 ∧ _) ∧ (¬ F 302 1 = 0 → _)
      rw [fz 258 0 (by omega) (by omega) (by omega) (by omega), g0 302 1 (by omega) (by omega) (by omega)]
      exact ⟨⟨rfl, Or.inl rfl⟩, fun q => absurd rfl q⟩
  · unfold DrR
    rw [fz 278 0 (by omega) (by omega) (by omega) (by omega), g0 279 9 (by omega) (by omega) (by omega)]
    omega

theorem ins0 : Cond.instantiable RX0 3 ∈ TB := (mem_TB 289 r289 rfl)
theorem ins1 : Cond.instantiable RX1 11 ∈ TB := (mem_TB 108 r108 rfl)
theorem ins2 : Cond.instantiable RX2 3 ∈ TB := (mem_TB 226 r226 rfl)
theorem ins3 : Cond.instantiable RX3 1 ∈ TB := (mem_TB 327 r327 rfl)
theorem ins4 : Cond.instantiable RX4 4 ∈ TB := (mem_TB 268 r268 rfl)
theorem ins5 : Cond.instantiable RX5 3 ∈ TB := (mem_TB 247 r247 rfl)
theorem ins6 : Cond.instantiable RX6 12 ∈ TB := (mem_TB 166 r166 rfl)
theorem ins7 : Cond.instantiable RX7 6 ∈ TB := (mem_TB 79 r79 rfl)
theorem ins8 : Cond.instantiable RX8 4 ∈ TB := (mem_TB 306 r306 rfl)
theorem r71 : lw_tbl[71]? = some ((Jvm.Cond.instantiable "OnionProbate" (10 : Nat))) := by decide +kernel
theorem ins9 : Cond.instantiable RX9 10 ∈ TB := (mem_TB 71 r71 rfl)
theorem r793 : lw_tbl[793]? = some ((Jvm.Cond.instantiable "OnionProbateModel" (40 : Nat))) := by decide +kernel
theorem ins10 : Cond.instantiable RX10 40 ∈ TB := (mem_TB 793 r793 rfl)
theorem ovrO : Cond.arrayOver (.object "OnionProbate$Onion") ∈ NT := (mem_NT 232 r232 rfl)
theorem ovrM : Cond.arrayOver (.object "OnionProbate$Image") ∈ NT := (mem_NT 246 r246 rfl)
theorem ovrA : Cond.arrayOver (.array .int) ∈ NT := (mem_NT 114 r114 rfl)
theorem r70 : lw_tbl[70]? = some ((Jvm.Cond.classLink "OnionProbateLaw" (7 : Nat) "OnionProbate")) := by decide +kernel
theorem nwL_7 : Nwc RL 7 9 10 := ⟨RX9, TX9, tyX9, rfl, rfl, by decide, inT9, tyX9_ok, (mem_TB 70 r70 rfl), (mem_TB 71 r71 rfl), (mem_TB 56 r56 rfl), by decide +kernel⟩
theorem r792 : lw_tbl[792]? = some ((Jvm.Cond.classLink "OnionProbateLaw" (10 : Nat) "OnionProbateModel")) := by decide +kernel
theorem nwL_10 : Nwc RL 10 10 40 := ⟨RX10, TX10, tyX10, rfl, rfl, by decide, inT10, tyX10_ok, (mem_TB 792 r792 rfl), (mem_TB 793 r793 rfl), (mem_TB 66 r66 rfl), by decide +kernel⟩
set_option maxHeartbeats 4000000 in
set_option maxRecDepth 100000 in
theorem law_all {S : Nat × (Nat → Int32)} {Q : Post} (hS : S.1 ≤ 256) (hQ : ∀ n P M, Q (some (vI 1)) n P M) : Go S yL_law cL_law 4 9 303 9661 (some .boolean) 0 [(0, vS)] [] 0 (fun _ _ => none) (fun _ _ => 0) Q := by
  refine go_new (n := 0) (mc' := 302) (ms' := 9651) dL_law_0 nwL_7 rfl (by decide) (by decide +kernel) rfl rfl ?_
  refine go_dup dL_law_3 rfl ?_
  refine go_callIV (ci := 0) (av := []) (st := [vR 0]) (a := 0) (mc1 := 278) (ms1 := 4935) (mc2 := 24) (ms2 := 4716) dL_law_4 cwL_9 (by decide) rfl rfl (Nat.le_of_ble_eq_true rfl) rfl rfl (ok_X9_init ?_)
  refine go_astore_n (lv' := [(1, vR 0), (0, vS)]) dL_law_7 rfl (by decide) rfl ?_
  refine go_new (n := 279) (mc' := 23) (ms' := 4676) dL_law_8 nwL_10 rfl (by decide) (by decide +kernel) rfl rfl ?_
  refine go_dup dL_law_11 rfl ?_
  refine go_callIV (ci := 0) (av := []) (st := [vR 279]) (a := 279) (mc1 := 23) (ms1 := 4676) (mc2 := 0) (ms2 := 0) dL_law_12 cwL_12 (by decide) rfl rfl (Nat.le_of_ble_eq_true rfl) rfl rfl (ok_X10_init ?_)
  refine go_astore_n (lv' := [(2, vR 279), (1, vR 0), (0, vS)]) dL_law_15 rfl (by decide) rfl ?_
  refine go_iconst dL_law_16 (by decide) ?_
  refine go_istore_n (lv' := [(3, vI 0), (2, vR 279), (1, vR 0), (0, vS)]) dL_law_17 rfl (by decide) rfl ?_
  refine go_lv [0, 2, 1, 3] rfl ?_
  exact law_go hS hQ (S.1 + 4) 0 4 0 (rEmp M10) (by omega) (by omega) rel_start (by omega)
theorem nest_of {w : Cond} (h : w ∈ NT) {A : Array Value} {U : State} (hz : w.before A U = true) : va_Nw w U := by
  have h1 := (List.mem_filter.mp h).2
  cases w <;> first | exact va_Nw.of rfl hz | exact hz | (exact absurd h1 (by simp [isNest]))

