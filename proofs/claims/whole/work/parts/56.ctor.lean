theorem r106 : lw_tbl[106]? = some ((Jvm.Cond.arrayClass Jvm.ClassFile.FieldType.int)) := by decide +kernel
theorem r287 : lw_tbl[287]? = some ((Jvm.Cond.arrayClass Jvm.ClassFile.FieldType.boolean)) := by decide +kernel
theorem wd_acI : Cond.arrayClass .int ∈ TB := (mem_TB 106 r106 rfl)
theorem wd_acZ : Cond.arrayClass .boolean ∈ TB := (mem_TB 287 r287 rfl)
def pOn (P : rfm) (a : Nat) : rfm := fun x j => if x = a ∧ 1 ≤ j ∧ j ≤ 6 then some (a + j) else P x j
theorem pOn_eq {P : rfm} {a : Nat} : up2 (up2 (up2 (up2 (up2 (up2 P a 1 (some (a + 1))) a 2 (some (a + 2))) a 3 (some (a + 3))) a 4 (some (a + 4))) a 5 (some (a + 5))) a 6 (some (a + 6)) = pOn P a := by
  funext x j
  unfold pOn
  by_cases hx : x = a
  · by_cases h : 1 ≤ j ∧ j ≤ 6
    · rw [if_pos ⟨hx, h.1, h.2⟩, hx]
      have : j = 1 ∨ j = 2 ∨ j = 3 ∨ j = 4 ∨ j = 5 ∨ j = 6 := by omega
      rcases this with rfl | rfl | rfl | rfl | rfl | rfl <;> simp [up2]
    · rw [if_neg (by omega)]
      repeat (refine (up2_ne (by omega)).trans ?_)
      rfl
  · rw [if_neg (by omega)]
    repeat (refine (up2_ne (by omega)).trans ?_)
    rfl
def pCs (P : rfm) (v : Nat) : rfm := fun x j => if x = v ∧ 5 ≤ j ∧ j ≤ 10 then some (v + j - 4) else if x = v + 6 ∧ j < 6 then some (v + 7 + j) else P x j
theorem pCs_eq {P : rfm} {v : Nat} : up2 (pRows (up2 (up2 (up2 (up2 (up2 P v 5 (some (v + 1))) v 6 (some (v + 2))) v 7 (some (v + 3))) v 8 (some (v + 4))) v 9 (some (v + 5))) (v + 6) 6) v 10 (some (v + 6)) = pCs P v := by
  funext x j
  unfold pCs pRows
  by_cases hx : x = v
  · by_cases h : 5 ≤ j ∧ j ≤ 10
    · rw [if_pos ⟨hx, h.1, h.2⟩, hx]
      have : j = 5 ∨ j = 6 ∨ j = 7 ∨ j = 8 ∨ j = 9 ∨ j = 10 := by omega
      rcases this with rfl | rfl | rfl | rfl | rfl | rfl <;> simp [up2]
    · rw [if_neg (by omega), if_neg (by omega)]
      refine (up2_ne (by omega)).trans ?_
      rw [if_neg (by omega)]
      repeat (refine (up2_ne (by omega)).trans ?_)
      rfl
  · rw [if_neg (by omega)]
    refine (up2_ne (by omega)).trans ?_
    by_cases h : x = v + 6 ∧ j < 6
    · rw [if_pos h, if_pos h]
    · rw [if_neg h, if_neg h]
      repeat (refine (up2_ne (by omega)).trans ?_)
      rfl
def pDe (P : rfm) (i : Nat) : rfm := fun x j => if x = 38 ∧ j < i then some (39 + 7 * j) else if 39 ≤ x ∧ x < 39 + 7 * i ∧ (x - 39) % 7 = 0 ∧ 1 ≤ j ∧ j ≤ 6 then some (x + j) else P x j
def mDe (M : inm) (i : Nat) : inm := fun x j => if 39 ≤ x ∧ x < 39 + 7 * i ∧ (x - 39) % 7 = 0 ∧ j = 11 then -1 else M x j
theorem pDe_0 {P : rfm} : pDe P 0 = P := by
  funext x j
  unfold pDe
  rw [if_neg (by omega), if_neg (by omega)]
theorem mDe_0 {M : inm} : mDe M 0 = M := by
  funext x j
  unfold mDe
  rw [if_neg (by omega)]
theorem pDe_s {P : rfm} {i : Nat} : up2 (pOn (pDe P i) (39 + 7 * i)) 38 i (some (39 + 7 * i)) = pDe P (i + 1) := by
  funext x j
  by_cases h1 : x = 38
  · subst h1
    by_cases h2 : j = i
    · subst h2
      rw [up2_same]
      unfold pDe
      rw [if_pos ⟨rfl, by omega⟩]
    · rw [up2_ne (by omega)]
      unfold pOn pDe
      rw [if_neg (by omega)]
      by_cases h3 : j < i
      · rw [if_pos ⟨rfl, h3⟩, if_pos ⟨rfl, by omega⟩]
      · rw [if_neg (by omega), if_neg (by omega), if_neg (by omega), if_neg (by omega)]
  · rw [up2_ne (by omega)]
    unfold pOn pDe
    by_cases h2 : x = 39 + 7 * i ∧ 1 ≤ j ∧ j ≤ 6
    · rw [if_pos h2, if_neg (by omega), if_pos (by omega)]
      exact congrArg some (by omega)
    · rw [if_neg h2, if_neg (show ¬ (x = 38 ∧ j < i) by omega), if_neg (show ¬ (x = 38 ∧ j < i + 1) by omega)]
      by_cases h3 : 39 ≤ x ∧ x < 39 + 7 * i ∧ (x - 39) % 7 = 0 ∧ 1 ≤ j ∧ j ≤ 6
      · rw [if_pos h3, if_pos (by omega)]
      · rw [if_neg h3, if_neg (by omega)]
theorem mDe_s {M : inm} {i : Nat} : up2 (mDe M i) (39 + 7 * i) 11 (-1) = mDe M (i + 1) := by
  funext x j
  by_cases h1 : x = 39 + 7 * i ∧ j = 11
  · obtain ⟨rfl, rfl⟩ := h1
    rw [up2_same]
    unfold mDe
    rw [if_pos (by omega)]
  · rw [up2_ne (by omega)]
    unfold mDe
    by_cases h3 : 39 ≤ x ∧ x < 39 + 7 * i ∧ (x - 39) % 7 = 0 ∧ j = 11
    · rw [if_pos h3, if_pos (by omega)]
    · rw [if_neg h3, if_neg (by omega)]

set_option maxHeartbeats 4000000 in
set_option maxRecDepth 100000 in
theorem ok_X6_init {a : Nat} {P : rfm} {M : inm} {Q : Nat → rfm → inm → Prop} (h : On a) (hz : ∀ j, M a j = 0) (hQ : Q (a + 7) (pOn P a) (up2 M a 11 (-1))) : OkV yX6_init cX6_init 1 1 6 119 [vR a] (a + 1) P M Q := by
  refine OkV.of (by decide +kernel) (by decide +kernel) (Nat.le_of_ble_eq_true rfl) ?_
  refine go_eq (lv' := [(0, vR a)]) rfl rfl rfl rfl rfl ?_
  refine go_aload_n 0 dX6_init_0 rfl rfl ?_
  refine go_obj dX6_init_1 oj6_3 w_obj_in (by decide) (Nat.le_of_ble_eq_true rfl) ?_
  refine go_aload_n 0 dX6_init_4 rfl rfl ?_
  refine go_iconst dX6_init_5 (by decide) ?_
  refine go_putI dX6_init_6 (Or.inl lk6_9) h.k0 (by omega) rfl (Or.inl rfl) ?_
  refine go_m (up2_self (hz 0)) ?_
  refine go_aload_n 0 dX6_init_9 rfl rfl ?_
  refine go_bipush dX6_init_10 (by decide) (by decide) ?_
  refine go_newI (n := a + 1) (mc' := 5) (ms' := 107) (N := 12) dX6_init_12 wd_acI (by have := h.all.1; omega) h.k1 h.n1 rfl (by decide) rfl rfl ?_
  refine go_putR (r := a + 1) dX6_init_14 (Or.inl lk6_15) rfl h.k0 (by omega) rfl (Or.inr rfl) ?_
  refine go_aload_n 0 dX6_init_17 rfl rfl ?_
  refine go_bipush dX6_init_18 (by decide) (by decide) ?_
  refine go_newI (n := a + 2) (mc' := 4) (ms' := 95) (N := 12) dX6_init_20 wd_acI (by have := h.all.1; omega) h.k2 h.n2 rfl (by decide) rfl rfl ?_
  refine go_putR (r := a + 2) dX6_init_22 (Or.inl lk6_19) rfl h.k0 (by omega) rfl (Or.inr rfl) ?_
  refine go_aload_n 0 dX6_init_25 rfl rfl ?_
  refine go_iconst dX6_init_26 (by decide) ?_
  refine go_newI (n := a + 3) (mc' := 3) (ms' := 90) (N := 5) dX6_init_27 wd_acI (by have := h.all.1; omega) h.k3 h.n3 rfl (by decide) rfl rfl ?_
  refine go_putR (r := a + 3) dX6_init_29 (Or.inl lk6_22) rfl h.k0 (by omega) rfl (Or.inr rfl) ?_
  refine go_aload_n 0 dX6_init_32 rfl rfl ?_
  refine go_iconst dX6_init_33 (by decide) ?_
  refine go_newI (n := a + 4) (mc' := 2) (ms' := 85) (N := 5) dX6_init_34 wd_acI (by have := h.all.1; omega) h.k4 h.n4 rfl (by decide) rfl rfl ?_
  refine go_putR (r := a + 4) dX6_init_36 (Or.inl lk6_25) rfl h.k0 (by omega) rfl (Or.inr rfl) ?_
  refine go_aload_n 0 dX6_init_39 rfl rfl ?_
  refine go_iconst dX6_init_40 (by decide) ?_
  refine go_newI (n := a + 5) (mc' := 1) (ms' := 80) (N := 5) dX6_init_41 wd_acI (by have := h.all.1; omega) h.k5 h.n5 rfl (by decide) rfl rfl ?_
  refine go_putR (r := a + 5) dX6_init_43 (Or.inl lk6_28) rfl h.k0 (by omega) rfl (Or.inr rfl) ?_
  refine go_aload_n 0 dX6_init_46 rfl rfl ?_
  refine go_bipush dX6_init_47 (by decide) (by decide) ?_
  refine go_newI (n := a + 6) (mc' := 0) (ms' := 0) (N := 80) dX6_init_49 wd_acI (by have := h.all.1; omega) h.k6 h.n6 rfl (by decide) rfl rfl ?_
  refine go_putR (r := a + 6) dX6_init_51 (Or.inl lk6_31) rfl h.k0 (by omega) rfl (Or.inr rfl) ?_
  refine go_aload_n 0 dX6_init_54 rfl rfl ?_
  refine go_iconst dX6_init_55 (by decide) ?_
  refine go_putI dX6_init_56 (Or.inl lk6_34) h.k0 (by omega) rfl (Or.inl rfl) ?_
  refine go_m (up2_self (hz 7)) ?_
  refine go_aload_n 0 dX6_init_59 rfl rfl ?_
  refine go_iconst dX6_init_60 (by decide) ?_
  refine go_putI dX6_init_61 (Or.inl lk6_37) h.k0 (by omega) rfl (Or.inl rfl) ?_
  refine go_m (up2_self (hz 8)) ?_
  refine go_aload_n 0 dX6_init_64 rfl rfl ?_
  refine go_iconst dX6_init_65 (by decide) ?_
  refine go_putZ dX6_init_66 (Or.inl lk6_40) h.k0 (by omega) rfl (Or.inl rfl) (by decide) ?_
  refine go_m (up2_self (hz 9)) ?_
  refine go_aload_n 0 dX6_init_69 rfl rfl ?_
  refine go_iconst dX6_init_70 (by decide) ?_
  refine go_putZ dX6_init_71 (Or.inl lk6_44) h.k0 (by omega) rfl (Or.inl rfl) (by decide) ?_
  refine go_m (up2_self (hz 10)) ?_
  refine go_aload_n 0 dX6_init_74 rfl rfl ?_
  refine go_iconst dX6_init_75 (by decide) ?_
  refine go_putI dX6_init_76 (Or.inl lk6_47) h.k0 (by omega) rfl (Or.inl rfl) ?_
  refine go_ret dX6_init_79 rfl ⟨rfl, ?_⟩
  rw [pOn_eq]
  exact hQ

theorem r113 : lw_tbl[113]? = some ((Jvm.Cond.classLink "OnionProbate$Case" (44 : Nat) "[[I")) := by decide +kernel
theorem r114 : lw_tbl[114]? = some ((Jvm.Cond.arrayOver (Jvm.ClassFile.FieldType.array Jvm.ClassFile.FieldType.int))) := by decide +kernel
set_option maxHeartbeats 4000000 in
set_option maxRecDepth 100000 in
theorem ok_X1_init {v : Nat} {P : rfm} {M : inm} {Q : Nat → rfm → inm → Prop} (h : Cs v) (hz : ∀ j, M v j = 0) (hQ : Q (v + 13) (pCs P v) (up2 M v 1 (-1))) : OkV yX1_init cX1_init 1 1 12 94 [vR v] (v + 1) P M Q := by
  refine OkV.of (by decide +kernel) (by decide +kernel) (Nat.le_of_ble_eq_true rfl) ?_
  refine go_eq (lv' := [(0, vR v)]) rfl rfl rfl rfl rfl ?_
  refine go_aload_n 0 dX1_init_0 rfl rfl ?_
  refine go_obj dX1_init_1 oj1_3 w_obj_in (by decide) (Nat.le_of_ble_eq_true rfl) ?_
  refine go_aload_n 0 dX1_init_4 rfl rfl ?_
  refine go_iconst dX1_init_5 (by decide) ?_
  refine go_putZ dX1_init_6 (Or.inl lk1_9) h.k0 (by omega) rfl (Or.inl rfl) (by decide) ?_
  refine go_m (up2_self (hz 0)) ?_
  refine go_aload_n 0 dX1_init_9 rfl rfl ?_
  refine go_iconst dX1_init_10 (by decide) ?_
  refine go_putI dX1_init_11 (Or.inl lk1_15) h.k0 (by omega) rfl (Or.inl rfl) ?_
  refine go_aload_n 0 dX1_init_14 rfl rfl ?_
  refine go_iconst dX1_init_15 (by decide) ?_
  refine go_putI dX1_init_16 (Or.inl lk1_19) h.k0 (by omega) rfl (Or.inl rfl) ?_
  refine go_m (up2_self ((up2_ne (by omega)).trans (hz 2))) ?_
  refine go_aload_n 0 dX1_init_19 rfl rfl ?_
  refine go_iconst dX1_init_20 (by decide) ?_
  refine go_putI dX1_init_21 (Or.inl lk1_22) h.k0 (by omega) rfl (Or.inl rfl) ?_
  refine go_m (up2_self ((up2_ne (by omega)).trans (hz 3))) ?_
  refine go_aload_n 0 dX1_init_24 rfl rfl ?_
  refine go_iconst dX1_init_25 (by decide) ?_
  refine go_putI dX1_init_26 (Or.inl lk1_25) h.k0 (by omega) rfl (Or.inl rfl) ?_
  refine go_m (up2_self ((up2_ne (by omega)).trans (hz 4))) ?_
  refine go_aload_n 0 dX1_init_29 rfl rfl ?_
  refine go_bipush dX1_init_30 (by decide) (by decide) ?_
  refine go_newI (n := v + 1) (mc' := 11) (ms' := 82) (N := 12) dX1_init_32 wd_acI (by have := h.l (j := 12) (by omega); omega) h.k1 h.n1 rfl (by decide) rfl rfl ?_
  refine go_putR (r := v + 1) dX1_init_34 (Or.inl lk1_28) rfl h.k0 (by omega) rfl (Or.inr rfl) ?_
  refine go_aload_n 0 dX1_init_37 rfl rfl ?_
  refine go_bipush dX1_init_38 (by decide) (by decide) ?_
  refine go_newI (n := v + 2) (mc' := 10) (ms' := 70) (N := 12) dX1_init_40 wd_acI (by have := h.l (j := 12) (by omega); omega) h.k2 h.n2 rfl (by decide) rfl rfl ?_
  refine go_putR (r := v + 2) dX1_init_42 (Or.inl lk1_32) rfl h.k0 (by omega) rfl (Or.inr rfl) ?_
  refine go_aload_n 0 dX1_init_45 rfl rfl ?_
  refine go_iconst dX1_init_46 (by decide) ?_
  refine go_newI (n := v + 3) (mc' := 9) (ms' := 65) (N := 5) dX1_init_47 wd_acI (by have := h.l (j := 12) (by omega); omega) h.k3 h.n3 rfl (by decide) rfl rfl ?_
  refine go_putR (r := v + 3) dX1_init_49 (Or.inl lk1_35) rfl h.k0 (by omega) rfl (Or.inr rfl) ?_
  refine go_aload_n 0 dX1_init_52 rfl rfl ?_
  refine go_iconst dX1_init_53 (by decide) ?_
  refine go_newI (n := v + 4) (mc' := 8) (ms' := 60) (N := 5) dX1_init_54 wd_acI (by have := h.l (j := 12) (by omega); omega) h.k4 h.n4 rfl (by decide) rfl rfl ?_
  refine go_putR (r := v + 4) dX1_init_56 (Or.inl lk1_38) rfl h.k0 (by omega) rfl (Or.inr rfl) ?_
  refine go_aload_n 0 dX1_init_59 rfl rfl ?_
  refine go_bipush dX1_init_60 (by decide) (by decide) ?_
  refine go_newI (n := v + 5) (mc' := 7) (ms' := 54) (N := 6) dX1_init_62 wd_acI (by have := h.l (j := 12) (by omega); omega) h.k5 h.n5 rfl (by decide) rfl rfl ?_
  refine go_putR (r := v + 5) dX1_init_64 (Or.inl lk1_41) rfl h.k0 (by omega) rfl (Or.inr rfl) ?_
  refine go_aload_n 0 dX1_init_67 rfl rfl ?_
  refine go_bipush dX1_init_68 (by decide) (by decide) ?_
  refine go_bipush dX1_init_70 (by decide) (by decide) ?_
  refine go_mna (n := v + 6) (mc' := 0) (ms' := 0) (own := RX1) dX1_init_72 ⟨(mem_TB 113 r113 rfl), (mem_NT 114 r114 rfl), wd_acI⟩ rfl (by have := h.l (j := 12) (by omega); omega) h.k6 h.n6 (fun j hj => ⟨h.kt hj, h.nt hj⟩) rfl rfl ?_
  refine go_putR (r := v + 6) dX1_init_76 (Or.inl lk1_46) rfl h.k0 (by omega) rfl (Or.inr rfl) ?_
  refine go_ret dX1_init_79 rfl ⟨rfl, ?_⟩
  rw [pCs_eq]
  exact hQ

set_option maxHeartbeats 4000000 in
set_option maxRecDepth 100000 in
theorem ok_X7_init {P : rfm} {M : inm} {Q : Nat → rfm → inm → Prop} (hz : ∀ j, M 1 j = 0) (hQ : Q 4 (up2 (up2 P 1 0 (some 2)) 1 1 (some 3)) (up2 M 1 5 (-1))) : OkV yX7_init cX7_init 1 1 2 248 [vR 1] 2 P M Q := by
  refine OkV.of (by decide +kernel) (by decide +kernel) (Nat.le_of_ble_eq_true rfl) ?_
  refine go_eq (lv' := [(0, vR 1)]) rfl rfl rfl rfl rfl ?_
  refine go_aload_n 0 dX7_init_0 rfl rfl ?_
  refine go_obj dX7_init_1 oj7_3 w_obj_in (by decide) (Nat.le_of_ble_eq_true rfl) ?_
  refine go_aload_n 0 dX7_init_4 rfl rfl ?_
  refine go_sipush dX7_init_5 (by decide) (by decide) ?_
  refine go_newI (n := 2) (mc' := 1) (ms' := 8) (N := 240) dX7_init_8 wd_acI (by decide) (by decide +kernel) (by decide +kernel) rfl (by decide) rfl rfl ?_
  refine go_putR (r := 2) dX7_init_10 (Or.inl lk7_9) rfl (by decide +kernel) (by decide) rfl (Or.inr rfl) ?_
  refine go_aload_n 0 dX7_init_13 rfl rfl ?_
  refine go_bipush dX7_init_14 (by decide) (by decide) ?_
  refine go_newI (n := 3) (mc' := 0) (ms' := 0) (N := 8) dX7_init_16 wd_acI (by decide) (by decide +kernel) (by decide +kernel) rfl (by decide) rfl rfl ?_
  refine go_putR (r := 3) dX7_init_18 (Or.inl lk7_15) rfl (by decide +kernel) (by decide) rfl (Or.inr rfl) ?_
  refine go_aload_n 0 dX7_init_21 rfl rfl ?_
  refine go_iconst dX7_init_22 (by decide) ?_
  refine go_putI dX7_init_23 (Or.inl lk7_18) (by decide +kernel) (by decide) rfl (Or.inl rfl) ?_
  refine go_m (up2_self (hz 2)) ?_
  refine go_aload_n 0 dX7_init_26 rfl rfl ?_
  refine go_iconst dX7_init_27 (by decide) ?_
  refine go_putI dX7_init_28 (Or.inl lk7_22) (by decide +kernel) (by decide) rfl (Or.inl rfl) ?_
  refine go_m (up2_self (hz 3)) ?_
  refine go_aload_n 0 dX7_init_31 rfl rfl ?_
  refine go_iconst dX7_init_32 (by decide) ?_
  refine go_putI dX7_init_33 (Or.inl lk7_25) (by decide +kernel) (by decide) rfl (Or.inl rfl) ?_
  refine go_m (up2_self (hz 4)) ?_
  refine go_aload_n 0 dX7_init_36 rfl rfl ?_
  refine go_iconst dX7_init_37 (by decide) ?_
  refine go_putI dX7_init_38 (Or.inl lk7_28) (by decide +kernel) (by decide) rfl (Or.inl rfl) ?_
  refine go_ret dX7_init_41 rfl ⟨rfl, ?_⟩
  exact hQ

set_option maxHeartbeats 4000000 in
set_option maxRecDepth 100000 in
theorem ok_X4_init {P : rfm} {M : inm} {Q : Nat → rfm → inm → Prop} (hz : ∀ j, M 266 j = 0) (hQ : Q 270 (up2 (up2 (up2 P 266 0 (some 267)) 266 1 (some 268)) 266 2 (some 269)) M) : OkV yX4_init cX4_init 1 1 3 18 [vR 266] 267 P M Q := by
  refine OkV.of (by decide +kernel) (by decide +kernel) (Nat.le_of_ble_eq_true rfl) ?_
  refine go_eq (lv' := [(0, vR 266)]) rfl rfl rfl rfl rfl ?_
  refine go_aload_n 0 dX4_init_0 rfl rfl ?_
  refine go_obj dX4_init_1 oj4_3 w_obj_in (by decide) (Nat.le_of_ble_eq_true rfl) ?_
  refine go_aload_n 0 dX4_init_4 rfl rfl ?_
  refine go_bipush dX4_init_5 (by decide) (by decide) ?_
  refine go_newI (n := 267) (mc' := 2) (ms' := 12) (N := 6) dX4_init_7 wd_acI (by decide) (by decide +kernel) (by decide +kernel) rfl (by decide) rfl rfl ?_
  refine go_putR (r := 267) dX4_init_9 (Or.inl lk4_9) rfl (by decide +kernel) (by decide) rfl (Or.inr rfl) ?_
  refine go_aload_n 0 dX4_init_12 rfl rfl ?_
  refine go_bipush dX4_init_13 (by decide) (by decide) ?_
  refine go_newI (n := 268) (mc' := 1) (ms' := 6) (N := 6) dX4_init_15 wd_acI (by decide) (by decide +kernel) (by decide +kernel) rfl (by decide) rfl rfl ?_
  refine go_putR (r := 268) dX4_init_17 (Or.inl lk4_15) rfl (by decide +kernel) (by decide) rfl (Or.inr rfl) ?_
  refine go_aload_n 0 dX4_init_20 rfl rfl ?_
  refine go_bipush dX4_init_21 (by decide) (by decide) ?_
  refine go_newZ (n := 269) (mc' := 0) (ms' := 0) (N := 6) dX4_init_23 wd_acZ (by decide) (by decide +kernel) (by decide +kernel) rfl (by decide) rfl rfl ?_
  refine go_putR (r := 269) dX4_init_25 (Or.inl lk4_18) rfl (by decide +kernel) (by decide) rfl (Or.inr rfl) ?_
  refine go_aload_n 0 dX4_init_28 rfl rfl ?_
  refine go_iconst dX4_init_29 (by decide) ?_
  refine go_putI dX4_init_30 (Or.inl lk4_22) (by decide +kernel) (by decide) rfl (Or.inl rfl) ?_
  refine go_m (up2_self (hz 3)) ?_
  refine go_ret dX4_init_33 rfl ⟨rfl, ?_⟩
  exact hQ

set_option maxHeartbeats 4000000 in
set_option maxRecDepth 100000 in
theorem ok_X0_init {P : rfm} {M : inm} {Q : Nat → rfm → inm → Prop} (hz : ∀ j, M 270 j = 0) (hQ : Q 273 (up2 (up2 P 270 0 (some 271)) 270 1 (some 272)) M) : OkV yX0_init cX0_init 1 1 2 40 [vR 270] 271 P M Q := by
  refine OkV.of (by decide +kernel) (by decide +kernel) (Nat.le_of_ble_eq_true rfl) ?_
  refine go_eq (lv' := [(0, vR 270)]) rfl rfl rfl rfl rfl ?_
  refine go_aload_n 0 dX0_init_0 rfl rfl ?_
  refine go_obj dX0_init_1 oj0_3 w_obj_in (by decide) (Nat.le_of_ble_eq_true rfl) ?_
  refine go_aload_n 0 dX0_init_4 rfl rfl ?_
  refine go_bipush dX0_init_5 (by decide) (by decide) ?_
  refine go_newI (n := 271) (mc' := 1) (ms' := 20) (N := 20) dX0_init_7 wd_acI (by decide) (by decide +kernel) (by decide +kernel) rfl (by decide) rfl rfl ?_
  refine go_putR (r := 271) dX0_init_9 (Or.inl lk0_9) rfl (by decide +kernel) (by decide) rfl (Or.inr rfl) ?_
  refine go_aload_n 0 dX0_init_12 rfl rfl ?_
  refine go_bipush dX0_init_13 (by decide) (by decide) ?_
  refine go_newI (n := 272) (mc' := 0) (ms' := 0) (N := 20) dX0_init_15 wd_acI (by decide) (by decide +kernel) (by decide +kernel) rfl (by decide) rfl rfl ?_
  refine go_putR (r := 272) dX0_init_17 (Or.inl lk0_15) rfl (by decide +kernel) (by decide) rfl (Or.inr rfl) ?_
  refine go_aload_n 0 dX0_init_20 rfl rfl ?_
  refine go_iconst dX0_init_21 (by decide) ?_
  refine go_putI dX0_init_22 (Or.inl lk0_18) (by decide +kernel) (by decide) rfl (Or.inl rfl) ?_
  refine go_m (up2_self (hz 2)) ?_
  refine go_ret dX0_init_25 rfl ⟨rfl, ?_⟩
  exact hQ

set_option maxHeartbeats 4000000 in
set_option maxRecDepth 100000 in
theorem ok_X8_init {P : rfm} {M : inm} {Q : Nat → rfm → inm → Prop} (hz : ∀ j, M 273 j = 0) (hQ : Q 278 (up2 (up2 (up2 (up2 P 273 0 (some 274)) 273 1 (some 275)) 273 2 (some 276)) 273 3 (some 277)) M) : OkV yX8_init cX8_init 1 1 4 37 [vR 273] 274 P M Q := by
  refine OkV.of (by decide +kernel) (by decide +kernel) (Nat.le_of_ble_eq_true rfl) ?_
  refine go_eq (lv' := [(0, vR 273)]) rfl rfl rfl rfl rfl ?_
  refine go_aload_n 0 dX8_init_0 rfl rfl ?_
  refine go_obj dX8_init_1 oj8_3 w_obj_in (by decide) (Nat.le_of_ble_eq_true rfl) ?_
  refine go_aload_n 0 dX8_init_4 rfl rfl ?_
  refine go_bipush dX8_init_5 (by decide) (by decide) ?_
  refine go_newI (n := 274) (mc' := 3) (ms' := 24) (N := 13) dX8_init_7 wd_acI (by decide) (by decide +kernel) (by decide +kernel) rfl (by decide) rfl rfl ?_
  refine go_putR (r := 274) dX8_init_9 (Or.inl lk8_9) rfl (by decide +kernel) (by decide) rfl (Or.inr rfl) ?_
  refine go_aload_n 0 dX8_init_12 rfl rfl ?_
  refine go_bipush dX8_init_13 (by decide) (by decide) ?_
  refine go_newI (n := 275) (mc' := 2) (ms' := 11) (N := 13) dX8_init_15 wd_acI (by decide) (by decide +kernel) (by decide +kernel) rfl (by decide) rfl rfl ?_
  refine go_putR (r := 275) dX8_init_17 (Or.inl lk8_15) rfl (by decide +kernel) (by decide) rfl (Or.inr rfl) ?_
  refine go_aload_n 0 dX8_init_20 rfl rfl ?_
  refine go_iconst dX8_init_21 (by decide) ?_
  refine go_newI (n := 276) (mc' := 1) (ms' := 6) (N := 5) dX8_init_22 wd_acI (by decide) (by decide +kernel) (by decide +kernel) rfl (by decide) rfl rfl ?_
  refine go_putR (r := 276) dX8_init_24 (Or.inl lk8_18) rfl (by decide +kernel) (by decide) rfl (Or.inr rfl) ?_
  refine go_aload_n 0 dX8_init_27 rfl rfl ?_
  refine go_bipush dX8_init_28 (by decide) (by decide) ?_
  refine go_newI (n := 277) (mc' := 0) (ms' := 0) (N := 6) dX8_init_30 wd_acI (by decide) (by decide +kernel) (by decide +kernel) rfl (by decide) rfl rfl ?_
  refine go_putR (r := 277) dX8_init_32 (Or.inl lk8_21) rfl (by decide +kernel) (by decide) rfl (Or.inr rfl) ?_
  refine go_ret dX8_init_35 rfl ⟨rfl, ?_⟩
  exact hQ

set_option maxHeartbeats 4000000 in
set_option maxRecDepth 100000 in
theorem ok_X3_init {P : rfm} {M : inm} {Q : Nat → rfm → inm → Prop} (hz : ∀ j, M 278 j = 0) (hQ : Q 279 P M) : OkV yX3_init cX3_init 1 1 0 0 [vR 278] 279 P M Q := by
  refine OkV.of (by decide +kernel) (by decide +kernel) (Nat.le_of_ble_eq_true rfl) ?_
  refine go_eq (lv' := [(0, vR 278)]) rfl rfl rfl rfl rfl ?_
  refine go_aload_n 0 dX3_init_0 rfl rfl ?_
  refine go_obj dX3_init_1 oj3_1 w_obj_in (by decide) (Nat.le_of_ble_eq_true rfl) ?_
  refine go_aload_n 0 dX3_init_4 rfl rfl ?_
  refine go_iconst dX3_init_5 (by decide) ?_
  refine go_putI dX3_init_6 (Or.inl lk3_7) (by decide +kernel) (by decide) rfl (Or.inl rfl) ?_
  refine go_m (up2_self (hz 0)) ?_
  refine go_ret dX3_init_9 rfl ⟨rfl, ?_⟩
  exact hQ

theorem r252 : lw_tbl[252]? = some ((Jvm.Cond.classLink "OnionProbate$Image" (13 : Nat) "OnionProbate$Onion")) := by decide +kernel
theorem r166 : lw_tbl[166]? = some ((Jvm.Cond.instantiable "OnionProbate$Onion" (12 : Nat))) := by decide +kernel
theorem nw5_13 : Nwc RX5 13 6 12 := ⟨RX6, TX6, tyX6, rfl, rfl, by decide, inT6, tyX6_ok, (mem_TB 252 r252 rfl), (mem_TB 166 r166 rfl), (mem_TB 59 r59 rfl), by decide +kernel⟩
set_option maxHeartbeats 4000000 in
set_option maxRecDepth 100000 in
theorem ok_X5_init_250 {P : rfm} {M : inm} {Q : Nat → rfm → inm → Prop} (hz : ∀ j, M 250 j = 0) (hz1 : ∀ j, M 251 j = 0) (hQ : Q 258 (up2 (pOn P 251) 250 1 (some 251)) (up2 M 251 11 (-1))) : OkV yX5_init cX5_init 1 2 7 131 [vR 250] 251 P M Q := by
  refine OkV.of (by decide +kernel) (by decide +kernel) (Nat.le_of_ble_eq_true rfl) ?_
  refine go_eq (lv' := [(0, vR 250)]) rfl rfl rfl rfl rfl ?_
  refine go_aload_n 0 dX5_init_0 rfl rfl ?_
  refine go_obj dX5_init_1 oj5_1 w_obj_in (by decide) (Nat.le_of_ble_eq_true rfl) ?_
  refine go_aload_n 0 dX5_init_4 rfl rfl ?_
  refine go_iconst dX5_init_5 (by decide) ?_
  refine go_putZ dX5_init_6 (Or.inl lk5_7) (by decide +kernel) (by decide) rfl (Or.inl rfl) (by decide) ?_
  refine go_m (up2_self (hz 0)) ?_
  refine go_aload_n 0 dX5_init_9 rfl rfl ?_
  refine go_new (n := 251) (mc' := 6) (ms' := 119) dX5_init_10 nw5_13 rfl (by decide) (by decide +kernel) rfl rfl ?_
  refine go_dup dX5_init_13 rfl ?_
  refine go_callIV (ci := 0) (av := []) (st := [vR 251, vR 250]) (a := 251) (mc1 := 6) (ms1 := 119) (mc2 := 0) (ms2 := 0) dX5_init_14 cw5_15 (by decide) rfl rfl (Nat.le_of_ble_eq_true rfl) rfl rfl (ok_X6_init (a := 251) On_251 hz1 ?_)
  refine go_putR (r := 251) dX5_init_17 (Or.inl lk5_16) rfl (by decide +kernel) (by decide) rfl (Or.inr rfl) ?_
  refine go_aload_n 0 dX5_init_20 rfl rfl ?_
  refine go_iconst dX5_init_21 (by decide) ?_
  refine go_putI dX5_init_22 (Or.inl lk5_20) (by decide +kernel) (by decide) rfl (Or.inl rfl) ?_
  refine go_m (up2_self ((up2_ne (by omega)).trans (hz 2))) ?_
  refine go_ret dX5_init_25 rfl ⟨rfl, ?_⟩
  exact hQ

set_option maxHeartbeats 4000000 in
set_option maxRecDepth 100000 in
theorem ok_X5_init_258 {P : rfm} {M : inm} {Q : Nat → rfm → inm → Prop} (hz : ∀ j, M 258 j = 0) (hz1 : ∀ j, M 259 j = 0) (hQ : Q 266 (up2 (pOn P 259) 258 1 (some 259)) (up2 M 259 11 (-1))) : OkV yX5_init cX5_init 1 2 7 131 [vR 258] 259 P M Q := by
  refine OkV.of (by decide +kernel) (by decide +kernel) (Nat.le_of_ble_eq_true rfl) ?_
  refine go_eq (lv' := [(0, vR 258)]) rfl rfl rfl rfl rfl ?_
  refine go_aload_n 0 dX5_init_0 rfl rfl ?_
  refine go_obj dX5_init_1 oj5_1 w_obj_in (by decide) (Nat.le_of_ble_eq_true rfl) ?_
  refine go_aload_n 0 dX5_init_4 rfl rfl ?_
  refine go_iconst dX5_init_5 (by decide) ?_
  refine go_putZ dX5_init_6 (Or.inl lk5_7) (by decide +kernel) (by decide) rfl (Or.inl rfl) (by decide) ?_
  refine go_m (up2_self (hz 0)) ?_
  refine go_aload_n 0 dX5_init_9 rfl rfl ?_
  refine go_new (n := 259) (mc' := 6) (ms' := 119) dX5_init_10 nw5_13 rfl (by decide) (by decide +kernel) rfl rfl ?_
  refine go_dup dX5_init_13 rfl ?_
  refine go_callIV (ci := 0) (av := []) (st := [vR 259, vR 258]) (a := 259) (mc1 := 6) (ms1 := 119) (mc2 := 0) (ms2 := 0) dX5_init_14 cw5_15 (by decide) rfl rfl (Nat.le_of_ble_eq_true rfl) rfl rfl (ok_X6_init (a := 259) On_259 hz1 ?_)
  refine go_putR (r := 259) dX5_init_17 (Or.inl lk5_16) rfl (by decide +kernel) (by decide) rfl (Or.inr rfl) ?_
  refine go_aload_n 0 dX5_init_20 rfl rfl ?_
  refine go_iconst dX5_init_21 (by decide) ?_
  refine go_putI dX5_init_22 (Or.inl lk5_20) (by decide +kernel) (by decide) rfl (Or.inl rfl) ?_
  refine go_m (up2_self ((up2_ne (by omega)).trans (hz 2))) ?_
  refine go_ret dX5_init_25 rfl ⟨rfl, ?_⟩
  exact hQ

theorem r231 : lw_tbl[231]? = some ((Jvm.Cond.classLink "OnionProbate$Deeds" (9 : Nat) "OnionProbate$Onion")) := by decide +kernel
theorem nw2_9 : Nwc RX2 9 6 12 := ⟨RX6, TX6, tyX6, rfl, rfl, by decide, inT6, tyX6_ok, (mem_TB 231 r231 rfl), (mem_TB 166 r166 rfl), (mem_TB 59 r59 rfl), by decide +kernel⟩
set_option maxHeartbeats 4000000 in
set_option maxRecDepth 100000 in
theorem lp_X2_init {P : rfm} {M : inm} {Q : Nat → rfm → inm → Prop} (hp : P 37 0 = some 38) (hz : ∀ x j, 39 ≤ x → M x j = 0) (hQ : Q 249 (pDe P 30) (mDe M 30)) : ∀ d i : Nat, 30 < i + d → i ≤ 30 → Go S0 yX2_init cX2_init 2 2 (7 * (30 - i)) (131 * (30 - i)) none 25 [(1, vI ((i : Nat) : Int)), (0, vR 37)] [] (39 + 7 * i) (pDe P i) (mDe M i) (fun v n P M => v = none ∧ Q n P M) := by
  intro d
  induction d with
  | zero => intro i h1 h2; exfalso; omega
  | succ d ih =>
    intro i h1 h2
    refine go_iload_n 0 dX2_init_25 rfl rfl ?_
    refine go_bipush dX2_init_26 (by decide) (by decide) ?_
    refine go_icmp_ge (tgt := 50) dX2_init_28 rfl (fun c1 => ?_) (fun c1 => ?_)
    · have e : i = 30 := by omega
      subst e
      refine go_ret dX2_init_50 rfl ⟨rfl, hQ⟩
    · have hi : i < 30 := by omega
      have hOn := On_bef hi
      refine go_aload_n 1 dX2_init_31 rfl rfl ?_
      refine go_getR (r := 38) dX2_init_32 lk2_11.get (by decide +kernel) (by omega) rfl ?_ ?_
      · unfold pDe
        rw [if_neg (by omega), if_neg (by omega)]
        exact hp
      refine go_iload_n 0 dX2_init_35 rfl rfl ?_
      refine go_new (n := 39 + 7 * i) (mc' := 6 + 7 * (30 - (i + 1))) (ms' := 119 + 131 * (30 - (i + 1))) dX2_init_36 nw2_9 rfl (by omega) hOn.k0 (by omega) (by omega) ?_
      refine go_dup dX2_init_39 rfl ?_
      refine go_callIV (ci := 0) (av := []) (st := [vR (39 + 7 * i), vI ((i : Nat) : Int), vR 38]) (a := 39 + 7 * i) (mc1 := 6) (ms1 := 119) (mc2 := 7 * (30 - (i + 1))) (ms2 := 131 * (30 - (i + 1))) dX2_init_40 cw2_24 (by decide) rfl rfl (Nat.le_of_ble_eq_true rfl) rfl rfl (ok_X6_init (a := 39 + 7 * i) hOn (fun j => by unfold mDe; rw [if_neg (by omega)]; exact hz _ _ (by omega)) ?_)
      refine go_aast (c0 := 2) (ci := 6) (C := RX6) (T := TX6) (N := 12) (i := i) dX2_init_43 (by decide) (fun _ => rfl) rfl (by decide) (by omega) (by decide +kernel) (by omega) hOn.k0 rfl (by rw [show ln 38 = 30 by decide +kernel]; exact hi) ?_
      refine gx_iinc (v := ((i + 1 : Nat) : Int)) (lv' := [(1, vI ((i + 1 : Nat) : Int)), (0, vR 37)]) 0 dX2_init_44 rfl (by omega) ⟨by omega, by omega⟩ (by decide) rfl ?_
      refine go_goto (tgt := 25) dX2_init_47 rfl ?_
      refine go_eq (n' := 39 + 7 * (i + 1)) (P' := pDe P (i + 1)) (M' := mDe M (i + 1)) rfl rfl (by omega) pDe_s mDe_s ?_
      exact ih (i + 1) (by omega) (by omega)

theorem r232 : lw_tbl[232]? = some ((Jvm.Cond.arrayOver (Jvm.ClassFile.FieldType.object "OnionProbate$Onion"))) := by decide +kernel
set_option maxHeartbeats 4000000 in
set_option maxRecDepth 100000 in
theorem ok_X2_init {P : rfm} {M : inm} {Q : Nat → rfm → inm → Prop} (hz : ∀ x j, 37 ≤ x → M x j = 0) (hQ : Q 249 (pDe (up2 P 37 0 (some 38)) 30) (mDe M 30)) : OkV yX2_init cX2_init 2 2 211 3960 [vR 37] 38 P M Q := by
  refine OkV.of (by decide +kernel) (by decide +kernel) (Nat.le_of_ble_eq_true rfl) ?_
  refine go_eq (lv' := [(0, vR 37)]) rfl rfl rfl rfl rfl ?_
  refine go_aload_n 0 dX2_init_0 rfl rfl ?_
  refine go_obj dX2_init_1 oj2_3 w_obj_in (by decide) (Nat.le_of_ble_eq_true rfl) ?_
  refine go_aload_n 0 dX2_init_4 rfl rfl ?_
  refine go_bipush dX2_init_5 (by decide) (by decide) ?_
  refine go_anew (n := 38) (mc' := 210) (ms' := 3930) (N := 30) (c0 := 2) (own := RX2) (C := "OnionProbate$Onion") dX2_init_7 ⟨(mem_TB 231 r231 rfl), (mem_NT 232 r232 rfl)⟩ rfl (by decide) (fun _ => rfl) (by decide) (by decide +kernel) (by decide +kernel) rfl (by decide) rfl rfl ?_
  refine go_putR (r := 38) dX2_init_10 (Or.inl lk2_11) rfl (by decide +kernel) (by decide) rfl (Or.inr rfl) ?_
  refine go_aload_n 0 dX2_init_13 rfl rfl ?_
  refine go_iconst dX2_init_14 (by decide) ?_
  refine go_putI dX2_init_15 (Or.inl lk2_17) (by decide +kernel) (by decide) rfl (Or.inl rfl) ?_
  refine go_m (up2_self (hz 37 1 (by omega))) ?_
  refine go_aload_n 0 dX2_init_18 rfl rfl ?_
  refine go_iconst dX2_init_19 (by decide) ?_
  refine go_putI dX2_init_20 (Or.inl lk2_21) (by decide +kernel) (by decide) rfl (Or.inl rfl) ?_
  refine go_m (up2_self (hz 37 2 (by omega))) ?_
  refine go_iconst dX2_init_23 (by decide) ?_
  refine go_istore_n (lv' := [(1, vI 0), (0, vR 37)]) dX2_init_24 rfl (by decide) rfl ?_
  refine go_eq (lv' := [(1, vI ((0 : Nat) : Int)), (0, vR 37)]) (n' := 39 + 7 * 0) (P' := pDe (up2 P 37 0 (some 38)) 0) (M' := mDe M 0) rfl rfl rfl pDe_0.symm mDe_0.symm ?_
  exact lp_X2_init up2_same (fun x j hx => hz x j (by omega)) hQ 31 0 (by omega) (by omega)

theorem pOn_out {P : rfm} {a x j : Nat} (h : x ≠ a ∨ j < 1 ∨ 6 < j) : pOn P a x j = P x j := by
  unfold pOn
  rw [if_neg (by omega)]
theorem pCs_out {P : rfm} {a x j : Nat} (h : (x ≠ a ∨ j < 5 ∨ 10 < j) ∧ (x ≠ a + 6 ∨ 6 ≤ j)) : pCs P a x j = P x j := by
  unfold pCs
  rw [if_neg (by omega), if_neg (by omega)]
theorem pDe_out {P : rfm} {i x j : Nat} (h : (x ≠ 38 ∨ i ≤ j) ∧ (x < 39 ∨ 39 + 7 * i ≤ x ∨ 6 < j)) : pDe P i x j = P x j := by
  unfold pDe
  rw [if_neg (by omega), if_neg (by omega)]

theorem mDe_out {M : inm} {i x j : Nat} (h : x < 39 ∨ 39 + 7 * i ≤ x) : mDe M i x j = M x j := by
  unfold mDe
  rw [if_neg (by omega)]

theorem r78 : lw_tbl[78]? = some ((Jvm.Cond.classLink "OnionProbate" (7 : Nat) "OnionProbate$Reader")) := by decide +kernel
theorem r79 : lw_tbl[79]? = some ((Jvm.Cond.instantiable "OnionProbate$Reader" (6 : Nat))) := by decide +kernel
theorem nw9_7 : Nwc RX9 7 7 6 := ⟨RX7, TX7, tyX7, rfl, rfl, by decide, inT7, tyX7_ok, (mem_TB 78 r78 rfl), (mem_TB 79 r79 rfl), (mem_TB 57 r57 rfl), by decide +kernel⟩
theorem r107 : lw_tbl[107]? = some ((Jvm.Cond.classLink "OnionProbate" (16 : Nat) "OnionProbate$Case")) := by decide +kernel
theorem r108 : lw_tbl[108]? = some ((Jvm.Cond.instantiable "OnionProbate$Case" (11 : Nat))) := by decide +kernel
theorem nw9_16 : Nwc RX9 16 1 11 := ⟨RX1, TX1, tyX1, rfl, rfl, by decide, inT1, tyX1_ok, (mem_TB 107 r107 rfl), (mem_TB 108 r108 rfl), (mem_TB 58 r58 rfl), by decide +kernel⟩
theorem r165 : lw_tbl[165]? = some ((Jvm.Cond.classLink "OnionProbate" (26 : Nat) "OnionProbate$Onion")) := by decide +kernel
theorem nw9_26 : Nwc RX9 26 6 12 := ⟨RX6, TX6, tyX6, rfl, rfl, by decide, inT6, tyX6_ok, (mem_TB 165 r165 rfl), (mem_TB 166 r166 rfl), (mem_TB 59 r59 rfl), by decide +kernel⟩
theorem r225 : lw_tbl[225]? = some ((Jvm.Cond.classLink "OnionProbate" (33 : Nat) "OnionProbate$Deeds")) := by decide +kernel
theorem r226 : lw_tbl[226]? = some ((Jvm.Cond.instantiable "OnionProbate$Deeds" (3 : Nat))) := by decide +kernel
theorem nw9_33 : Nwc RX9 33 2 3 := ⟨RX2, TX2, tyX2, rfl, rfl, by decide, inT2, tyX2_ok, (mem_TB 225 r225 rfl), (mem_TB 226 r226 rfl), (mem_TB 60 r60 rfl), by decide +kernel⟩
theorem r245 : lw_tbl[245]? = some ((Jvm.Cond.classLink "OnionProbate" (40 : Nat) "OnionProbate$Image")) := by decide +kernel
theorem r246 : lw_tbl[246]? = some ((Jvm.Cond.arrayOver (Jvm.ClassFile.FieldType.object "OnionProbate$Image"))) := by decide +kernel
theorem r247 : lw_tbl[247]? = some ((Jvm.Cond.instantiable "OnionProbate$Image" (3 : Nat))) := by decide +kernel
theorem nw9_40 : Nwc RX9 40 5 3 := ⟨RX5, TX5, tyX5, rfl, rfl, by decide, inT5, tyX5_ok, (mem_TB 245 r245 rfl), (mem_TB 247 r247 rfl), (mem_TB 61 r61 rfl), by decide +kernel⟩
theorem r267 : lw_tbl[267]? = some ((Jvm.Cond.classLink "OnionProbate" (47 : Nat) "OnionProbate$Guesses")) := by decide +kernel
theorem r268 : lw_tbl[268]? = some ((Jvm.Cond.instantiable "OnionProbate$Guesses" (4 : Nat))) := by decide +kernel
theorem nw9_47 : Nwc RX9 47 4 4 := ⟨RX4, TX4, tyX4, rfl, rfl, by decide, inT4, tyX4_ok, (mem_TB 267 r267 rfl), (mem_TB 268 r268 rfl), (mem_TB 62 r62 rfl), by decide +kernel⟩
theorem r288 : lw_tbl[288]? = some ((Jvm.Cond.classLink "OnionProbate" (54 : Nat) "OnionProbate$Book")) := by decide +kernel
theorem r289 : lw_tbl[289]? = some ((Jvm.Cond.instantiable "OnionProbate$Book" (3 : Nat))) := by decide +kernel
theorem nw9_54 : Nwc RX9 54 0 3 := ⟨RX0, TX0, tyX0, rfl, rfl, by decide, inT0, tyX0_ok, (mem_TB 288 r288 rfl), (mem_TB 289 r289 rfl), (mem_TB 63 r63 rfl), by decide +kernel⟩
theorem r305 : lw_tbl[305]? = some ((Jvm.Cond.classLink "OnionProbate" (61 : Nat) "OnionProbate$Trial")) := by decide +kernel
theorem r306 : lw_tbl[306]? = some ((Jvm.Cond.instantiable "OnionProbate$Trial" (4 : Nat))) := by decide +kernel
theorem nw9_61 : Nwc RX9 61 8 4 := ⟨RX8, TX8, tyX8, rfl, rfl, by decide, inT8, tyX8_ok, (mem_TB 305 r305 rfl), (mem_TB 306 r306 rfl), (mem_TB 64 r64 rfl), by decide +kernel⟩
theorem r326 : lw_tbl[326]? = some ((Jvm.Cond.classLink "OnionProbate" (68 : Nat) "OnionProbate$Draws")) := by decide +kernel
theorem r327 : lw_tbl[327]? = some ((Jvm.Cond.instantiable "OnionProbate$Draws" (1 : Nat))) := by decide +kernel
theorem nw9_68 : Nwc RX9 68 3 1 := ⟨RX3, TX3, tyX3, rfl, rfl, by decide, inT3, tyX3_ok, (mem_TB 326 r326 rfl), (mem_TB 327 r327 rfl), (mem_TB 65 r65 rfl), by decide +kernel⟩
def P9 : rfm := (up2 (up2 (up2 (up2 (up2 (up2 (up2 (up2 (up2 (up2 (up2 (up2 (up2 (up2 (up2 (pOn (up2 (up2 (pOn (up2 (up2 (pDe (up2 (up2 (pOn (up2 (pCs (up2 (pCs (up2 (up2 (up2 (fun _ _ => none) 1 0 (some 2)) 1 1 (some 3)) 0 0 (some 1)) 4) 0 1 (some 4)) 17) 0 2 (some 17)) 30) 0 3 (some 30)) 37 0 (some 38)) 30) 0 4 (some 37)) 0 5 (some 249)) 251) 250 1 (some 251)) 249 0 (some 250)) 259) 258 1 (some 259)) 249 1 (some 258)) 266 0 (some 267)) 266 1 (some 268)) 266 2 (some 269)) 0 6 (some 266)) 270 0 (some 271)) 270 1 (some 272)) 0 7 (some 270)) 273 0 (some 274)) 273 1 (some 275)) 273 2 (some 276)) 273 3 (some 277)) 0 8 (some 273)) 0 9 (some 278))
def M9 : inm := (up2 (up2 (mDe (up2 (up2 (up2 (up2 (fun _ _ => 0) 1 5 (-1)) 4 1 (-1)) 17 1 (-1)) 30 11 (-1)) 30) 251 11 (-1)) 259 11 (-1))

set_option maxHeartbeats 4000000 in
set_option maxRecDepth 100000 in
theorem ok_X9_init {Q : Nat → rfm → inm → Prop} (hQ : Q 279 P9 M9) : OkV yX9_init cX9_init 2 3 278 4935 [vR 0] 1 (fun _ _ => none) (fun _ _ => 0) Q := by
  refine OkV.of (by decide +kernel) (by decide +kernel) (Nat.le_of_ble_eq_true rfl) ?_
  refine go_eq (lv' := [(0, vR 0)]) rfl rfl rfl rfl rfl ?_
  refine go_aload_n 0 dX9_init_0 rfl rfl ?_
  refine go_obj dX9_init_1 oj9_1 w_obj_in (by decide) (Nat.le_of_ble_eq_true rfl) ?_
  refine go_aload_n 0 dX9_init_4 rfl rfl ?_
  refine go_new (n := 1) (mc' := 277) (ms' := 4929) dX9_init_5 nw9_7 rfl (by decide) (by decide +kernel) rfl rfl ?_
  refine go_dup dX9_init_8 rfl ?_
  refine go_callIV (ci := 0) (av := []) (st := [vR 1, vR 0]) (a := 1) (mc1 := 2) (ms1 := 248) (mc2 := 275) (ms2 := 4681) dX9_init_9 cw9_9 (by decide) rfl rfl (Nat.le_of_ble_eq_true rfl) rfl rfl (ok_X7_init (by intro j; repeat (first | rfl | (refine (up2_ne (by omega)).trans ?_) | (refine (mDe_out (by omega)).trans ?_))) ?_)
  refine go_putR (r := 1) dX9_init_12 (Or.inl lk9_10) rfl (by decide +kernel) (by decide) rfl (Or.inr rfl) ?_
  refine go_aload_n 0 dX9_init_15 rfl rfl ?_
  refine go_new (n := 4) (mc' := 274) (ms' := 4670) dX9_init_16 nw9_16 rfl (by decide) (by decide +kernel) rfl rfl ?_
  refine go_dup dX9_init_19 rfl ?_
  refine go_callIV (ci := 0) (av := []) (st := [vR 4, vR 0]) (a := 4) (mc1 := 12) (ms1 := 94) (mc2 := 262) (ms2 := 4576) dX9_init_20 cw9_18 (by decide) rfl rfl (Nat.le_of_ble_eq_true rfl) rfl rfl (ok_X1_init (v := 4) (by unfold Cs; decide) (by intro j; repeat (first | rfl | (refine (up2_ne (by omega)).trans ?_))) ?_)
  refine go_putR (r := 4) dX9_init_23 (Or.inl lk9_19) rfl (by decide +kernel) (by decide) rfl (Or.inl rfl) ?_
  refine go_aload_n 0 dX9_init_26 rfl rfl ?_
  refine go_new (n := 17) (mc' := 261) (ms' := 4565) dX9_init_27 nw9_16 rfl (by decide) (by decide +kernel) rfl rfl ?_
  refine go_dup dX9_init_30 rfl ?_
  refine go_callIV (ci := 0) (av := []) (st := [vR 17, vR 0]) (a := 17) (mc1 := 12) (ms1 := 94) (mc2 := 249) (ms2 := 4471) dX9_init_31 cw9_18 (by decide) rfl rfl (Nat.le_of_ble_eq_true rfl) rfl rfl (ok_X1_init (v := 17) (by unfold Cs; decide) (by intro j; repeat (first | rfl | (refine (up2_ne (by omega)).trans ?_))) ?_)
  refine go_putR (r := 17) dX9_init_34 (Or.inl lk9_23) rfl (by decide +kernel) (by decide) rfl (Or.inl rfl) ?_
  refine go_aload_n 0 dX9_init_37 rfl rfl ?_
  refine go_new (n := 30) (mc' := 248) (ms' := 4459) dX9_init_38 nw9_26 rfl (by decide) (by decide +kernel) rfl rfl ?_
  refine go_dup dX9_init_41 rfl ?_
  refine go_callIV (ci := 0) (av := []) (st := [vR 30, vR 0]) (a := 30) (mc1 := 6) (ms1 := 119) (mc2 := 242) (ms2 := 4340) dX9_init_42 cw9_28 (by decide) rfl rfl (Nat.le_of_ble_eq_true rfl) rfl rfl (ok_X6_init (a := 30) On_30 (by intro j; repeat (first | rfl | (refine (up2_ne (by omega)).trans ?_))) ?_)
  refine go_putR (r := 30) dX9_init_45 (Or.inl lk9_29) rfl (by decide +kernel) (by decide) rfl (Or.inr rfl) ?_
  refine go_aload_n 0 dX9_init_48 rfl rfl ?_
  refine go_new (n := 37) (mc' := 241) (ms' := 4337) dX9_init_49 nw9_33 rfl (by decide) (by decide +kernel) rfl rfl ?_
  refine go_dup dX9_init_52 rfl ?_
  refine go_callIV (ci := 0) (av := []) (st := [vR 37, vR 0]) (a := 37) (mc1 := 211) (ms1 := 3960) (mc2 := 30) (ms2 := 377) dX9_init_53 cw9_35 (by decide) rfl rfl (Nat.le_of_ble_eq_true rfl) rfl rfl (ok_X2_init (by intro x j hx; repeat (first | rfl | (refine (up2_ne (by omega)).trans ?_))) ?_)
  refine go_putR (r := 37) dX9_init_56 (Or.inl lk9_36) rfl (by decide +kernel) (by decide) rfl (Or.inr rfl) ?_
  refine go_aload_n 0 dX9_init_59 rfl rfl ?_
  refine go_iconst dX9_init_60 (by decide) ?_
  refine go_anew (n := 249) (mc' := 29) (ms' := 375) (N := 2) (c0 := 3) (own := RX9) (C := "OnionProbate$Image") dX9_init_61 ⟨(mem_TB 245 r245 rfl), (mem_NT 246 r246 rfl)⟩ rfl (by decide) (fun _ => rfl) (by decide) (by decide +kernel) (by decide +kernel) rfl (by decide) rfl rfl ?_
  refine go_putR (r := 249) dX9_init_64 (Or.inl lk9_42) rfl (by decide +kernel) (by decide) rfl (Or.inr rfl) ?_
  refine go_iconst dX9_init_67 (by decide) ?_
  refine go_istore_n (lv' := [(1, vI 0), (0, vR 0)]) dX9_init_68 rfl (by decide) rfl ?_
  refine go_iload_n 0 dX9_init_69 rfl rfl ?_
  refine go_iconst dX9_init_70 (by decide) ?_
  refine go_icmp_ge (tgt := 93) dX9_init_71 rfl (fun c1 => absurd c1 (by decide)) (fun c1 => ?_)
  refine go_aload_n 1 dX9_init_74 rfl rfl ?_
  refine go_getR (r := 249) dX9_init_75 lk9_42.get (by decide +kernel) (by decide) rfl (by decide +kernel) ?_
  refine go_iload_n 0 dX9_init_78 rfl rfl ?_
  refine go_new (n := 250) (mc' := 28) (ms' := 372) dX9_init_79 nw9_40 rfl (by decide) (by decide +kernel) rfl rfl ?_
  refine go_dup dX9_init_82 rfl ?_
  refine go_callIV (ci := 0) (av := []) (st := [vR 250, vI 0, vR 249]) (a := 250) (mc1 := 7) (ms1 := 131) (mc2 := 21) (ms2 := 241) dX9_init_83 cw9_46 (by decide) rfl rfl (Nat.le_of_ble_eq_true rfl) rfl rfl (ok_X5_init_250 (by intro j; repeat (first | rfl | (refine (up2_ne (by omega)).trans ?_) | (refine (mDe_out (by omega)).trans ?_))) (by intro j; repeat (first | rfl | (refine (up2_ne (by omega)).trans ?_) | (refine (mDe_out (by omega)).trans ?_))) ?_)
  refine go_aast (c0 := 3) (ci := 5) (C := RX5) (T := TX5) (N := 3) (i := 0) dX9_init_86 (by decide) (fun _ => rfl) rfl (by decide) (by decide) (by decide +kernel) (by decide) (by decide +kernel) rfl (by decide +kernel) ?_
  refine gx_iinc (v := 1) (lv' := [(1, vI 1), (0, vR 0)]) 0 dX9_init_87 rfl (by omega) ⟨by omega, by omega⟩ (by decide) rfl ?_
  refine go_goto (tgt := 69) dX9_init_90 rfl ?_
  refine go_iload_n 0 dX9_init_69 rfl rfl ?_
  refine go_iconst dX9_init_70 (by decide) ?_
  refine go_icmp_ge (tgt := 93) dX9_init_71 rfl (fun c1 => absurd c1 (by decide)) (fun c1 => ?_)
  refine go_aload_n 1 dX9_init_74 rfl rfl ?_
  refine go_getR (r := 249) dX9_init_75 lk9_42.get (by decide +kernel) (by decide) rfl (by decide +kernel) ?_
  refine go_iload_n 0 dX9_init_78 rfl rfl ?_
  refine go_new (n := 258) (mc' := 20) (ms' := 238) dX9_init_79 nw9_40 rfl (by decide) (by decide +kernel) rfl rfl ?_
  refine go_dup dX9_init_82 rfl ?_
  refine go_callIV (ci := 0) (av := []) (st := [vR 258, vI 1, vR 249]) (a := 258) (mc1 := 7) (ms1 := 131) (mc2 := 13) (ms2 := 107) dX9_init_83 cw9_46 (by decide) rfl rfl (Nat.le_of_ble_eq_true rfl) rfl rfl (ok_X5_init_258 (by intro j; repeat (first | rfl | (refine (up2_ne (by omega)).trans ?_) | (refine (mDe_out (by omega)).trans ?_))) (by intro j; repeat (first | rfl | (refine (up2_ne (by omega)).trans ?_) | (refine (mDe_out (by omega)).trans ?_))) ?_)
  refine go_aast (c0 := 3) (ci := 5) (C := RX5) (T := TX5) (N := 3) (i := 1) dX9_init_86 (by decide) (fun _ => rfl) rfl (by decide) (by decide) (by decide +kernel) (by decide) (by decide +kernel) rfl (by decide +kernel) ?_
  refine gx_iinc (v := 2) (lv' := [(1, vI 2), (0, vR 0)]) 0 dX9_init_87 rfl (by omega) ⟨by omega, by omega⟩ (by decide) rfl ?_
  refine go_goto (tgt := 69) dX9_init_90 rfl ?_
  refine go_iload_n 0 dX9_init_69 rfl rfl ?_
  refine go_iconst dX9_init_70 (by decide) ?_
  refine go_icmp_ge (tgt := 93) dX9_init_71 rfl (fun c1 => ?_) (fun c1 => absurd c1 (by decide))
  refine go_aload_n 1 dX9_init_93 rfl rfl ?_
  refine go_new (n := 266) (mc' := 12) (ms' := 103) dX9_init_94 nw9_47 rfl (by decide) (by decide +kernel) rfl rfl ?_
  refine go_dup dX9_init_97 rfl ?_
  refine go_callIV (ci := 0) (av := []) (st := [vR 266, vR 0]) (a := 266) (mc1 := 3) (ms1 := 18) (mc2 := 9) (ms2 := 85) dX9_init_98 cw9_49 (by decide) rfl rfl (Nat.le_of_ble_eq_true rfl) rfl rfl (ok_X4_init (by intro j; repeat (first | rfl | (refine (up2_ne (by omega)).trans ?_) | (refine (mDe_out (by omega)).trans ?_))) ?_)
  refine go_putR (r := 266) dX9_init_101 (Or.inl lk9_50) rfl (by decide +kernel) (by decide) rfl (Or.inr rfl) ?_
  refine go_aload_n 1 dX9_init_104 rfl rfl ?_
  refine go_new (n := 270) (mc' := 8) (ms' := 82) dX9_init_105 nw9_54 rfl (by decide) (by decide +kernel) rfl rfl ?_
  refine go_dup dX9_init_108 rfl ?_
  refine go_callIV (ci := 0) (av := []) (st := [vR 270, vR 0]) (a := 270) (mc1 := 2) (ms1 := 40) (mc2 := 6) (ms2 := 42) dX9_init_109 cw9_56 (by decide) rfl rfl (Nat.le_of_ble_eq_true rfl) rfl rfl (ok_X0_init (by intro j; repeat (first | rfl | (refine (up2_ne (by omega)).trans ?_) | (refine (mDe_out (by omega)).trans ?_))) ?_)
  refine go_putR (r := 270) dX9_init_112 (Or.inl lk9_57) rfl (by decide +kernel) (by decide) rfl (Or.inr rfl) ?_
  refine go_aload_n 1 dX9_init_115 rfl rfl ?_
  refine go_new (n := 273) (mc' := 5) (ms' := 38) dX9_init_116 nw9_61 rfl (by decide) (by decide +kernel) rfl rfl ?_
  refine go_dup dX9_init_119 rfl ?_
  refine go_callIV (ci := 0) (av := []) (st := [vR 273, vR 0]) (a := 273) (mc1 := 4) (ms1 := 37) (mc2 := 1) (ms2 := 1) dX9_init_120 cw9_63 (by decide) rfl rfl (Nat.le_of_ble_eq_true rfl) rfl rfl (ok_X8_init (by intro j; repeat (first | rfl | (refine (up2_ne (by omega)).trans ?_) | (refine (mDe_out (by omega)).trans ?_))) ?_)
  refine go_putR (r := 273) dX9_init_123 (Or.inl lk9_64) rfl (by decide +kernel) (by decide) rfl (Or.inr rfl) ?_
  refine go_aload_n 1 dX9_init_126 rfl rfl ?_
  refine go_new (n := 278) (mc' := 0) (ms' := 0) dX9_init_127 nw9_68 rfl (by decide) (by decide +kernel) rfl rfl ?_
  refine go_dup dX9_init_130 rfl ?_
  refine go_callIV (ci := 0) (av := []) (st := [vR 278, vR 0]) (a := 278) (mc1 := 0) (ms1 := 0) (mc2 := 0) (ms2 := 0) dX9_init_131 cw9_70 (by decide) rfl rfl (Nat.le_of_ble_eq_true rfl) rfl rfl (ok_X3_init (by intro j; repeat (first | rfl | (refine (up2_ne (by omega)).trans ?_) | (refine (mDe_out (by omega)).trans ?_))) ?_)
  refine go_putR (r := 278) dX9_init_134 (Or.inl lk9_71) rfl (by decide +kernel) (by decide) rfl (Or.inr rfl) ?_
  refine go_ret dX9_init_137 rfl ⟨rfl, ?_⟩
  exact hQ

def P10 : rfm := (up2 (up2 (up2 (up2 (up2 (up2 (up2 (up2 (up2 (up2 (up2 (up2 (up2 (up2 (up2 (up2 (up2 (up2 (up2 (up2 (up2 (up2 (up2 P9 279 3 (some 280)) 279 4 (some 281)) 279 6 (some 282)) 279 7 (some 283)) 279 8 (some 284)) 279 11 (some 285)) 279 12 (some 286)) 279 14 (some 287)) 279 15 (some 288)) 279 16 (some 289)) 279 17 (some 290)) 279 25 (some 291)) 279 26 (some 292)) 279 28 (some 293)) 279 29 (some 294)) 279 31 (some 295)) 279 32 (some 296)) 279 34 (some 297)) 279 35 (some 298)) 279 36 (some 299)) 279 37 (some 300)) 279 38 (some 301)) 279 39 (some 302))
def M10 : inm := (up2 M9 279 19 (-1))

set_option maxRecDepth 100000 in
theorem P10_lo : ∀ k, k < 303 → ∀ j, j < 40 → P10 k j = PP 4 k j := by decide +kernel

set_option maxRecDepth 100000 in
theorem ppT_len : ∀ k, k < 303 → (ppT.getD k []).length ≤ 40 := by decide +kernel

theorem P10_eq : P10 = PP 4 := by
  funext k j
  by_cases hk : k < 303
  · by_cases hj : j < 40
    · exact P10_lo k hk j hj
    · have e : PP 4 k j = none := by
        unfold PP
        rw [if_neg (by omega), if_neg (by omega), List.getD_eq_getElem?_getD, List.getElem?_eq_none (by have := ppT_len k hk; omega)]
        rfl
      rw [e]
      unfold P10 P9
      repeat (first | rfl | (refine (up2_ne (by omega)).trans ?_) | (refine (pOn_out (by omega)).trans ?_) | (refine (pCs_out (by omega)).trans ?_) | (refine (pDe_out (by omega)).trans ?_))
  · have e : PP 4 k j = none := by
      unfold PP
      have hlen : ppT.length = 303 := by decide +kernel
      have hnil : ppT.getD k [] = [] := by
        rw [List.getD_eq_getElem?_getD, List.getElem?_eq_none (by omega)]
        rfl
      rw [if_neg (by omega), if_neg (by omega), hnil]
      rfl
    rw [e]
    unfold P10 P9
    repeat (first | rfl | (refine (up2_ne (by omega)).trans ?_) | (refine (pOn_out (by omega)).trans ?_) | (refine (pCs_out (by omega)).trans ?_) | (refine (pDe_out (by omega)).trans ?_))

set_option maxHeartbeats 4000000 in
set_option maxRecDepth 100000 in
theorem ok_X10_init {Q : Nat → rfm → inm → Prop} (hQ : Q 303 (PP 4) (rEmp M10)) : OkV yX10_init cX10_init 1 1 23 4676 [vR 279] 280 P9 M9 Q := by
  refine OkV.of (by decide +kernel) (by decide +kernel) (Nat.le_of_ble_eq_true rfl) ?_
  refine go_eq (lv' := [(0, vR 279)]) rfl rfl rfl rfl rfl ?_
  refine go_aload_n 0 dX10_init_0 rfl rfl ?_
  refine go_obj dX10_init_1 oj10_1 w_obj_in (by decide) (Nat.le_of_ble_eq_true rfl) ?_
  refine go_aload_n 0 dX10_init_4 rfl rfl ?_
  refine go_iconst dX10_init_5 (by decide) ?_
  refine go_newI (n := 280) (mc' := 22) (ms' := 4671) (N := 5) dX10_init_6 wd_acI (by decide) (by decide +kernel) (by decide +kernel) rfl (by decide) rfl rfl ?_
  refine go_putR (r := 280) dX10_init_8 (Or.inl lk10_7) rfl (by decide +kernel) (by decide) rfl (Or.inr rfl) ?_
  refine go_aload_n 0 dX10_init_11 rfl rfl ?_
  refine go_iconst dX10_init_12 (by decide) ?_
  refine go_newI (n := 281) (mc' := 21) (ms' := 4666) (N := 5) dX10_init_13 wd_acI (by decide) (by decide +kernel) (by decide +kernel) rfl (by decide) rfl rfl ?_
  refine go_putR (r := 281) dX10_init_15 (Or.inl lk10_13) rfl (by decide +kernel) (by decide) rfl (Or.inr rfl) ?_
  refine go_aload_n 0 dX10_init_18 rfl rfl ?_
  refine go_bipush dX10_init_19 (by decide) (by decide) ?_
  refine go_newI (n := 282) (mc' := 20) (ms' := 4660) (N := 6) dX10_init_21 wd_acI (by decide) (by decide +kernel) (by decide +kernel) rfl (by decide) rfl rfl ?_
  refine go_putR (r := 282) dX10_init_23 (Or.inl lk10_16) rfl (by decide +kernel) (by decide) rfl (Or.inr rfl) ?_
  refine go_aload_n 0 dX10_init_26 rfl rfl ?_
  refine go_bipush dX10_init_27 (by decide) (by decide) ?_
  refine go_newI (n := 283) (mc' := 19) (ms' := 4612) (N := 48) dX10_init_29 wd_acI (by decide) (by decide +kernel) (by decide +kernel) rfl (by decide) rfl rfl ?_
  refine go_putR (r := 283) dX10_init_31 (Or.inl lk10_19) rfl (by decide +kernel) (by decide) rfl (Or.inr rfl) ?_
  refine go_aload_n 0 dX10_init_34 rfl rfl ?_
  refine go_bipush dX10_init_35 (by decide) (by decide) ?_
  refine go_newI (n := 284) (mc' := 18) (ms' := 4487) (N := 125) dX10_init_37 wd_acI (by decide) (by decide +kernel) (by decide +kernel) rfl (by decide) rfl rfl ?_
  refine go_putR (r := 284) dX10_init_39 (Or.inl lk10_22) rfl (by decide +kernel) (by decide) rfl (Or.inr rfl) ?_
  refine go_aload_n 0 dX10_init_42 rfl rfl ?_
  refine go_bipush dX10_init_43 (by decide) (by decide) ?_
  refine go_newI (n := 285) (mc' := 17) (ms' := 4467) (N := 20) dX10_init_45 wd_acI (by decide) (by decide +kernel) (by decide +kernel) rfl (by decide) rfl rfl ?_
  refine go_putR (r := 285) dX10_init_47 (Or.inl lk10_25) rfl (by decide +kernel) (by decide) rfl (Or.inr rfl) ?_
  refine go_aload_n 0 dX10_init_50 rfl rfl ?_
  refine go_bipush dX10_init_51 (by decide) (by decide) ?_
  refine go_newI (n := 286) (mc' := 16) (ms' := 4447) (N := 20) dX10_init_53 wd_acI (by decide) (by decide +kernel) (by decide +kernel) rfl (by decide) rfl rfl ?_
  refine go_putR (r := 286) dX10_init_55 (Or.inl lk10_28) rfl (by decide +kernel) (by decide) rfl (Or.inr rfl) ?_
  refine go_aload_n 0 dX10_init_58 rfl rfl ?_
  refine go_bipush dX10_init_59 (by decide) (by decide) ?_
  refine go_newI (n := 287) (mc' := 15) (ms' := 4441) (N := 6) dX10_init_61 wd_acI (by decide) (by decide +kernel) (by decide +kernel) rfl (by decide) rfl rfl ?_
  refine go_putR (r := 287) dX10_init_63 (Or.inl lk10_31) rfl (by decide +kernel) (by decide) rfl (Or.inr rfl) ?_
  refine go_aload_n 0 dX10_init_66 rfl rfl ?_
  refine go_bipush dX10_init_67 (by decide) (by decide) ?_
  refine go_newI (n := 288) (mc' := 14) (ms' := 4435) (N := 6) dX10_init_69 wd_acI (by decide) (by decide +kernel) (by decide +kernel) rfl (by decide) rfl rfl ?_
  refine go_putR (r := 288) dX10_init_71 (Or.inl lk10_34) rfl (by decide +kernel) (by decide) rfl (Or.inr rfl) ?_
  refine go_aload_n 0 dX10_init_74 rfl rfl ?_
  refine go_bipush dX10_init_75 (by decide) (by decide) ?_
  refine go_newI (n := 289) (mc' := 13) (ms' := 4429) (N := 6) dX10_init_77 wd_acI (by decide) (by decide +kernel) (by decide +kernel) rfl (by decide) rfl rfl ?_
  refine go_putR (r := 289) dX10_init_79 (Or.inl lk10_37) rfl (by decide +kernel) (by decide) rfl (Or.inr rfl) ?_
  refine go_aload_n 0 dX10_init_82 rfl rfl ?_
  refine go_sipush dX10_init_83 (by decide) (by decide) ?_
  refine go_newI (n := 290) (mc' := 12) (ms' := 4189) (N := 240) dX10_init_86 wd_acI (by decide) (by decide +kernel) (by decide +kernel) rfl (by decide) rfl rfl ?_
  refine go_putR (r := 290) dX10_init_88 (Or.inl lk10_40) rfl (by decide +kernel) (by decide) rfl (Or.inr rfl) ?_
  refine go_aload_n 0 dX10_init_91 rfl rfl ?_
  refine go_iconst dX10_init_92 (by decide) ?_
  refine go_putI dX10_init_93 (Or.inl lk10_43) (by decide +kernel) (by decide) rfl (Or.inl rfl) ?_
  refine go_aload_n 0 dX10_init_96 rfl rfl ?_
  refine go_bipush dX10_init_97 (by decide) (by decide) ?_
  refine go_newI (n := 291) (mc' := 11) (ms' := 4177) (N := 12) dX10_init_99 wd_acI (by decide) (by decide +kernel) (by decide +kernel) rfl (by decide) rfl rfl ?_
  refine go_putR (r := 291) dX10_init_101 (Or.inl lk10_47) rfl (by decide +kernel) (by decide) rfl (Or.inr rfl) ?_
  refine go_aload_n 0 dX10_init_104 rfl rfl ?_
  refine go_bipush dX10_init_105 (by decide) (by decide) ?_
  refine go_newI (n := 292) (mc' := 10) (ms' := 4165) (N := 12) dX10_init_107 wd_acI (by decide) (by decide +kernel) (by decide +kernel) rfl (by decide) rfl rfl ?_
  refine go_putR (r := 292) dX10_init_109 (Or.inl lk10_50) rfl (by decide +kernel) (by decide) rfl (Or.inr rfl) ?_
  refine go_aload_n 0 dX10_init_112 rfl rfl ?_
  refine go_iconst dX10_init_113 (by decide) ?_
  refine go_newI (n := 293) (mc' := 9) (ms' := 4160) (N := 5) dX10_init_114 wd_acI (by decide) (by decide +kernel) (by decide +kernel) rfl (by decide) rfl rfl ?_
  refine go_putR (r := 293) dX10_init_116 (Or.inl lk10_53) rfl (by decide +kernel) (by decide) rfl (Or.inr rfl) ?_
  refine go_aload_n 0 dX10_init_119 rfl rfl ?_
  refine go_iconst dX10_init_120 (by decide) ?_
  refine go_newI (n := 294) (mc' := 8) (ms' := 4155) (N := 5) dX10_init_121 wd_acI (by decide) (by decide +kernel) (by decide +kernel) rfl (by decide) rfl rfl ?_
  refine go_putR (r := 294) dX10_init_123 (Or.inl lk10_56) rfl (by decide +kernel) (by decide) rfl (Or.inr rfl) ?_
  refine go_aload_n 0 dX10_init_126 rfl rfl ?_
  refine go_bipush dX10_init_127 (by decide) (by decide) ?_
  refine go_newI (n := 295) (mc' := 7) (ms' := 4149) (N := 6) dX10_init_129 wd_acI (by decide) (by decide +kernel) (by decide +kernel) rfl (by decide) rfl rfl ?_
  refine go_putR (r := 295) dX10_init_131 (Or.inl lk10_59) rfl (by decide +kernel) (by decide) rfl (Or.inr rfl) ?_
  refine go_aload_n 0 dX10_init_134 rfl rfl ?_
  refine go_bipush dX10_init_135 (by decide) (by decide) ?_
  refine go_newI (n := 296) (mc' := 6) (ms' := 4101) (N := 48) dX10_init_137 wd_acI (by decide) (by decide +kernel) (by decide +kernel) rfl (by decide) rfl rfl ?_
  refine go_putR (r := 296) dX10_init_139 (Or.inl lk10_62) rfl (by decide +kernel) (by decide) rfl (Or.inr rfl) ?_
  refine go_aload_n 0 dX10_init_142 rfl rfl ?_
  refine go_sipush dX10_init_143 (by decide) (by decide) ?_
  refine go_newI (n := 297) (mc' := 5) (ms' := 351) (N := 3750) dX10_init_146 wd_acI (by decide) (by decide +kernel) (by decide +kernel) rfl (by decide) rfl rfl ?_
  refine go_putR (r := 297) dX10_init_148 (Or.inl lk10_65) rfl (by decide +kernel) (by decide) rfl (Or.inr rfl) ?_
  refine go_aload_n 0 dX10_init_151 rfl rfl ?_
  refine go_bipush dX10_init_152 (by decide) (by decide) ?_
  refine go_newI (n := 298) (mc' := 4) (ms' := 273) (N := 78) dX10_init_154 wd_acI (by decide) (by decide +kernel) (by decide +kernel) rfl (by decide) rfl rfl ?_
  refine go_putR (r := 298) dX10_init_156 (Or.inl lk10_68) rfl (by decide +kernel) (by decide) rfl (Or.inr rfl) ?_
  refine go_aload_n 0 dX10_init_159 rfl rfl ?_
  refine go_bipush dX10_init_160 (by decide) (by decide) ?_
  refine go_newI (n := 299) (mc' := 3) (ms' := 259) (N := 14) dX10_init_162 wd_acI (by decide) (by decide +kernel) (by decide +kernel) rfl (by decide) rfl rfl ?_
  refine go_putR (r := 299) dX10_init_164 (Or.inl lk10_71) rfl (by decide +kernel) (by decide) rfl (Or.inr rfl) ?_
  refine go_aload_n 0 dX10_init_167 rfl rfl ?_
  refine go_iconst dX10_init_168 (by decide) ?_
  refine go_newI (n := 300) (mc' := 2) (ms' := 254) (N := 5) dX10_init_169 wd_acI (by decide) (by decide +kernel) (by decide +kernel) rfl (by decide) rfl rfl ?_
  refine go_putR (r := 300) dX10_init_171 (Or.inl lk10_74) rfl (by decide +kernel) (by decide) rfl (Or.inr rfl) ?_
  refine go_aload_n 0 dX10_init_174 rfl rfl ?_
  refine go_sipush dX10_init_175 (by decide) (by decide) ?_
  refine go_newI (n := 301) (mc' := 1) (ms' := 2) (N := 252) dX10_init_178 wd_acI (by decide) (by decide +kernel) (by decide +kernel) rfl (by decide) rfl rfl ?_
  refine go_putR (r := 301) dX10_init_180 (Or.inl lk10_77) rfl (by decide +kernel) (by decide) rfl (Or.inr rfl) ?_
  refine go_aload_n 0 dX10_init_183 rfl rfl ?_
  refine go_iconst dX10_init_184 (by decide) ?_
  refine go_newZ (n := 302) (mc' := 0) (ms' := 0) (N := 2) dX10_init_185 wd_acZ (by decide) (by decide +kernel) (by decide +kernel) rfl (by decide) rfl rfl ?_
  refine go_putR (r := 302) dX10_init_187 (Or.inl lk10_80) rfl (by decide +kernel) (by decide) rfl (Or.inr rfl) ?_
  refine go_aload_n 0 dX10_init_190 rfl rfl ?_
  refine go_eq (lv' := [(0, vR 279)]) (st' := [vR 279]) (n' := 303) (P' := PP 4) (M' := M10) rfl rfl rfl P10_eq rfl ?_
  refine go_callVV (av := []) (st := []) (a := 279) (mc2 := 0) (ms2 := 0) dX10_init_191 cw10_84 (by decide) rfl rfl (Nat.le_of_ble_eq_true rfl) rfl rfl kd_279 ⟨_, _, rfl⟩ (by decide) (by decide) (ok_X10_empties ?_)
  refine go_ret dX10_init_194 rfl ⟨rfl, ?_⟩
  exact hQ

