/-! ===== Case: what changes it; Book, Draws, Guesses, Deeds ===== -/
theorem mCopy_out {M : inm} {b a x j : Nat} (h : x < b ∨ b + 6 < x) : mCopy M b a x j = M x j := by
  unfold mCopy
  rw [up2_ne (by omega), up2_ne (by omega), up2_ne (by omega), up2_ne (by omega), up2_ne (by omega), cp2_ne (by omega), cp2_ne (by omega), cp2_ne (by omega), cp2_ne (by omega), cp2_ne (by omega), cp2_ne (by omega), up2_ne (by omega)]
def mClear (M : inm) (v : Nat) : inm := up2 (up2 (up2 (up2 (up2 M v 0 0) v 1 (-1)) v 2 0) v 3 0) v 4 0
def fullV (M : inm) (v : Nat) (c : Int) : Int := if c = 109 then (if M v 1 = -1 then 0 else 1) else if c = 108 then (if M v 2 < 12 then 0 else 1) else if c = 101 then (if M v 3 < 5 then 0 else 1) else (if M v 4 < 6 then 0 else 1)
set_option maxHeartbeats 4000000 in
set_option maxRecDepth 100000 in
theorem ok_X1_clear {v w : Nat} {M : inm} {Q : Nat → rfm → inm → Prop} (hv : Cs v) (hQ : Q 303 (PP w) (mClear M v)) : OkV yX1_clear cX1_clear 1 0 0 0 [vR v] 303 (PP w) M Q := by
  refine OkV.of (by decide +kernel) (by decide +kernel) (Nat.le_of_ble_eq_true rfl) ?_
  refine go_eq (lv' := [(0, vR v)]) rfl rfl rfl rfl rfl ?_
  refine go_aload_n 0 dX1_clear_0 rfl rfl ?_
  refine go_iconst dX1_clear_1 (by decide) ?_
  refine go_putZ dX1_clear_2 (Or.inl lk1_9) hv.k0 hv.l0 rfl (Or.inl rfl) (by decide) ?_
  refine go_aload_n 0 dX1_clear_5 rfl rfl ?_
  refine go_iconst dX1_clear_6 (by decide) ?_
  refine go_putI dX1_clear_7 (Or.inl lk1_15) hv.k0 hv.l0 rfl (Or.inl rfl) ?_
  refine go_aload_n 0 dX1_clear_10 rfl rfl ?_
  refine go_iconst dX1_clear_11 (by decide) ?_
  refine go_putI dX1_clear_12 (Or.inl lk1_19) hv.k0 hv.l0 rfl (Or.inl rfl) ?_
  refine go_aload_n 0 dX1_clear_15 rfl rfl ?_
  refine go_iconst dX1_clear_16 (by decide) ?_
  refine go_putI dX1_clear_17 (Or.inl lk1_22) hv.k0 hv.l0 rfl (Or.inl rfl) ?_
  refine go_aload_n 0 dX1_clear_20 rfl rfl ?_
  refine go_iconst dX1_clear_21 (by decide) ?_
  refine go_putI dX1_clear_22 (Or.inl lk1_25) hv.k0 hv.l0 rfl (Or.inl rfl) ?_
  refine go_ret dX1_clear_25 rfl ⟨rfl, ?_⟩
  exact hQ

set_option maxHeartbeats 4000000 in
set_option maxRecDepth 100000 in
theorem ok_X1_isFullOf {v w : Nat} {c : Int} {M : inm} {Q : Int → Nat → rfm → inm → Prop} (hv : Cs v) (hQ : Q (fullV M v c) 303 (PP w) M) : OkI yX1_isFullOf cX1_isFullOf 2 0 0 0 (some .boolean) [vR v, vI c] 303 (PP w) M Q := by
  refine OkI.of (by decide +kernel) (by decide +kernel) (Nat.le_of_ble_eq_true rfl) ?_
  refine go_eq (lv' := [(0, vR v), (1, vI c)]) rfl rfl rfl rfl rfl ?_
  refine go_iload_n 1 dX1_isFullOf_0 rfl rfl ?_
  by_cases s1 : c = 101
  · refine go_look (tgt := 65) dX1_isFullOf_1 (by decide) (by first | (rw [s1]; done) | (rw [s1]; rfl)) rfl ?_
    refine go_aload_n 0 dX1_isFullOf_65 rfl rfl ?_
    refine gx_getI (v := (M v 3)) dX1_isFullOf_66 lk1_22.get hv.k0 hv.l0 rfl rfl ?_
    refine go_iconst dX1_isFullOf_69 (by decide) ?_
    refine go_icmp_lt (tgt := 77) dX1_isFullOf_70 rfl (fun c2 => ?_) (fun c2 => ?_)
    · refine go_iconst dX1_isFullOf_77 (by decide) ?_
      refine go_iret dX1_isFullOf_78 rfl rfl ⟨_, rfl, ?_⟩
      simp only [fullV] at hQ
      first | (simp_all; done) | (rw [if_pos (by omega), if_pos (by omega)] at hQ; exact hQ) | (rw [if_pos (by omega), if_neg (by omega)] at hQ; exact hQ) | (rw [if_neg (by omega), if_pos (by omega), if_pos (by omega)] at hQ; exact hQ) | (rw [if_neg (by omega), if_pos (by omega), if_neg (by omega)] at hQ; exact hQ) | (rw [if_neg (by omega), if_neg (by omega), if_pos (by omega), if_pos (by omega)] at hQ; exact hQ) | (rw [if_neg (by omega), if_neg (by omega), if_pos (by omega), if_neg (by omega)] at hQ; exact hQ) | (rw [if_neg (by omega), if_neg (by omega), if_neg (by omega), if_pos (by omega)] at hQ; exact hQ) | (rw [if_neg (by omega), if_neg (by omega), if_neg (by omega), if_neg (by omega)] at hQ; exact hQ)
    · refine go_iconst dX1_isFullOf_73 (by decide) ?_
      refine go_goto (tgt := 78) dX1_isFullOf_74 rfl ?_
      refine go_iret dX1_isFullOf_78 rfl rfl ⟨_, rfl, ?_⟩
      simp only [fullV] at hQ
      first | (simp_all; done) | (rw [if_pos (by omega), if_pos (by omega)] at hQ; exact hQ) | (rw [if_pos (by omega), if_neg (by omega)] at hQ; exact hQ) | (rw [if_neg (by omega), if_pos (by omega), if_pos (by omega)] at hQ; exact hQ) | (rw [if_neg (by omega), if_pos (by omega), if_neg (by omega)] at hQ; exact hQ) | (rw [if_neg (by omega), if_neg (by omega), if_pos (by omega), if_pos (by omega)] at hQ; exact hQ) | (rw [if_neg (by omega), if_neg (by omega), if_pos (by omega), if_neg (by omega)] at hQ; exact hQ) | (rw [if_neg (by omega), if_neg (by omega), if_neg (by omega), if_pos (by omega)] at hQ; exact hQ) | (rw [if_neg (by omega), if_neg (by omega), if_neg (by omega), if_neg (by omega)] at hQ; exact hQ)
  · skip
    by_cases s3 : c = 108
    · refine go_look (tgt := 50) dX1_isFullOf_1 (by decide) (by first | (rw [s3]; done) | (rw [s3]; rfl)) rfl ?_
      refine go_aload_n 0 dX1_isFullOf_50 rfl rfl ?_
      refine gx_getI (v := (M v 2)) dX1_isFullOf_51 lk1_19.get hv.k0 hv.l0 rfl rfl ?_
      refine go_bipush dX1_isFullOf_54 (by decide) (by decide) ?_
      refine go_icmp_lt (tgt := 63) dX1_isFullOf_56 rfl (fun c4 => ?_) (fun c4 => ?_)
      · refine go_iconst dX1_isFullOf_63 (by decide) ?_
        refine go_iret dX1_isFullOf_64 rfl rfl ⟨_, rfl, ?_⟩
        simp only [fullV] at hQ
        first | (simp_all; done) | (rw [if_pos (by omega), if_pos (by omega)] at hQ; exact hQ) | (rw [if_pos (by omega), if_neg (by omega)] at hQ; exact hQ) | (rw [if_neg (by omega), if_pos (by omega), if_pos (by omega)] at hQ; exact hQ) | (rw [if_neg (by omega), if_pos (by omega), if_neg (by omega)] at hQ; exact hQ) | (rw [if_neg (by omega), if_neg (by omega), if_pos (by omega), if_pos (by omega)] at hQ; exact hQ) | (rw [if_neg (by omega), if_neg (by omega), if_pos (by omega), if_neg (by omega)] at hQ; exact hQ) | (rw [if_neg (by omega), if_neg (by omega), if_neg (by omega), if_pos (by omega)] at hQ; exact hQ) | (rw [if_neg (by omega), if_neg (by omega), if_neg (by omega), if_neg (by omega)] at hQ; exact hQ)
      · refine go_iconst dX1_isFullOf_59 (by decide) ?_
        refine go_goto (tgt := 64) dX1_isFullOf_60 rfl ?_
        refine go_iret dX1_isFullOf_64 rfl rfl ⟨_, rfl, ?_⟩
        simp only [fullV] at hQ
        first | (simp_all; done) | (rw [if_pos (by omega), if_pos (by omega)] at hQ; exact hQ) | (rw [if_pos (by omega), if_neg (by omega)] at hQ; exact hQ) | (rw [if_neg (by omega), if_pos (by omega), if_pos (by omega)] at hQ; exact hQ) | (rw [if_neg (by omega), if_pos (by omega), if_neg (by omega)] at hQ; exact hQ) | (rw [if_neg (by omega), if_neg (by omega), if_pos (by omega), if_pos (by omega)] at hQ; exact hQ) | (rw [if_neg (by omega), if_neg (by omega), if_pos (by omega), if_neg (by omega)] at hQ; exact hQ) | (rw [if_neg (by omega), if_neg (by omega), if_neg (by omega), if_pos (by omega)] at hQ; exact hQ) | (rw [if_neg (by omega), if_neg (by omega), if_neg (by omega), if_neg (by omega)] at hQ; exact hQ)
    · skip
      by_cases s5 : c = 109
      · refine go_look (tgt := 36) dX1_isFullOf_1 (by decide) (by first | (rw [s5]; done) | (rw [s5]; rfl)) rfl ?_
        refine go_aload_n 0 dX1_isFullOf_36 rfl rfl ?_
        refine gx_getI (v := (M v 1)) dX1_isFullOf_37 lk1_15.get hv.k0 hv.l0 rfl rfl ?_
        refine go_iconst dX1_isFullOf_40 (by decide) ?_
        refine go_icmp_eq (tgt := 48) dX1_isFullOf_41 rfl (fun c6 => ?_) (fun c6 => ?_)
        · refine go_iconst dX1_isFullOf_48 (by decide) ?_
          refine go_iret dX1_isFullOf_49 rfl rfl ⟨_, rfl, ?_⟩
          simp only [fullV] at hQ
          first | (simp_all; done) | (rw [if_pos (by omega), if_pos (by omega)] at hQ; exact hQ) | (rw [if_pos (by omega), if_neg (by omega)] at hQ; exact hQ) | (rw [if_neg (by omega), if_pos (by omega), if_pos (by omega)] at hQ; exact hQ) | (rw [if_neg (by omega), if_pos (by omega), if_neg (by omega)] at hQ; exact hQ) | (rw [if_neg (by omega), if_neg (by omega), if_pos (by omega), if_pos (by omega)] at hQ; exact hQ) | (rw [if_neg (by omega), if_neg (by omega), if_pos (by omega), if_neg (by omega)] at hQ; exact hQ) | (rw [if_neg (by omega), if_neg (by omega), if_neg (by omega), if_pos (by omega)] at hQ; exact hQ) | (rw [if_neg (by omega), if_neg (by omega), if_neg (by omega), if_neg (by omega)] at hQ; exact hQ)
        · refine go_iconst dX1_isFullOf_44 (by decide) ?_
          refine go_goto (tgt := 49) dX1_isFullOf_45 rfl ?_
          refine go_iret dX1_isFullOf_49 rfl rfl ⟨_, rfl, ?_⟩
          simp only [fullV] at hQ
          first | (simp_all; done) | (rw [if_pos (by omega), if_pos (by omega)] at hQ; exact hQ) | (rw [if_pos (by omega), if_neg (by omega)] at hQ; exact hQ) | (rw [if_neg (by omega), if_pos (by omega), if_pos (by omega)] at hQ; exact hQ) | (rw [if_neg (by omega), if_pos (by omega), if_neg (by omega)] at hQ; exact hQ) | (rw [if_neg (by omega), if_neg (by omega), if_pos (by omega), if_pos (by omega)] at hQ; exact hQ) | (rw [if_neg (by omega), if_neg (by omega), if_pos (by omega), if_neg (by omega)] at hQ; exact hQ) | (rw [if_neg (by omega), if_neg (by omega), if_neg (by omega), if_pos (by omega)] at hQ; exact hQ) | (rw [if_neg (by omega), if_neg (by omega), if_neg (by omega), if_neg (by omega)] at hQ; exact hQ)
      · skip
        refine go_look (tgt := 79) dX1_isFullOf_1 (by decide) (by first | (rw [look_miss s1, look_miss s3, look_miss s5]; done) | (rw [look_miss s1, look_miss s3, look_miss s5]; rfl)) rfl ?_
        refine go_aload_n 0 dX1_isFullOf_79 rfl rfl ?_
        refine gx_getI (v := (M v 4)) dX1_isFullOf_80 lk1_25.get hv.k0 hv.l0 rfl rfl ?_
        refine go_bipush dX1_isFullOf_83 (by decide) (by decide) ?_
        refine go_icmp_lt (tgt := 92) dX1_isFullOf_85 rfl (fun c7 => ?_) (fun c7 => ?_)
        · refine go_iconst dX1_isFullOf_92 (by decide) ?_
          refine go_iret dX1_isFullOf_93 rfl rfl ⟨_, rfl, ?_⟩
          simp only [fullV] at hQ
          first | (simp_all; done) | (rw [if_pos (by omega), if_pos (by omega)] at hQ; exact hQ) | (rw [if_pos (by omega), if_neg (by omega)] at hQ; exact hQ) | (rw [if_neg (by omega), if_pos (by omega), if_pos (by omega)] at hQ; exact hQ) | (rw [if_neg (by omega), if_pos (by omega), if_neg (by omega)] at hQ; exact hQ) | (rw [if_neg (by omega), if_neg (by omega), if_pos (by omega), if_pos (by omega)] at hQ; exact hQ) | (rw [if_neg (by omega), if_neg (by omega), if_pos (by omega), if_neg (by omega)] at hQ; exact hQ) | (rw [if_neg (by omega), if_neg (by omega), if_neg (by omega), if_pos (by omega)] at hQ; exact hQ) | (rw [if_neg (by omega), if_neg (by omega), if_neg (by omega), if_neg (by omega)] at hQ; exact hQ)
        · refine go_iconst dX1_isFullOf_88 (by decide) ?_
          refine go_goto (tgt := 93) dX1_isFullOf_89 rfl ?_
          refine go_iret dX1_isFullOf_93 rfl rfl ⟨_, rfl, ?_⟩
          simp only [fullV] at hQ
          first | (simp_all; done) | (rw [if_pos (by omega), if_pos (by omega)] at hQ; exact hQ) | (rw [if_pos (by omega), if_neg (by omega)] at hQ; exact hQ) | (rw [if_neg (by omega), if_pos (by omega), if_pos (by omega)] at hQ; exact hQ) | (rw [if_neg (by omega), if_pos (by omega), if_neg (by omega)] at hQ; exact hQ) | (rw [if_neg (by omega), if_neg (by omega), if_pos (by omega), if_pos (by omega)] at hQ; exact hQ) | (rw [if_neg (by omega), if_neg (by omega), if_pos (by omega), if_neg (by omega)] at hQ; exact hQ) | (rw [if_neg (by omega), if_neg (by omega), if_neg (by omega), if_pos (by omega)] at hQ; exact hQ) | (rw [if_neg (by omega), if_neg (by omega), if_neg (by omega), if_neg (by omega)] at hQ; exact hQ)

def maddLayer (M : inm) (v n : Nat) (x z : Int) : inm := up2 (up2 (up2 M (v + 1) n x) (v + 2) n z) v 2 ((n + 1 : Nat) : Int)
set_option maxHeartbeats 4000000 in
set_option maxRecDepth 100000 in
theorem ok_X1_addLayer {v w n : Nat} {x z : Int} {M : inm} {Q : Nat → rfm → inm → Prop} (hv : Cs v) (hn : M v 2 = (n : Int)) (h12 : n < 12) (hQ : Q 303 (PP w) (maddLayer M v n x z)) : OkV yX1_addLayer cX1_addLayer 3 0 0 0 [vR v, vI x, vI z] 303 (PP w) M Q := by
  refine OkV.of (by decide +kernel) (by decide +kernel) (Nat.le_of_ble_eq_true rfl) ?_
  refine go_eq (lv' := [(0, vR v), (1, vI x), (2, vI z)]) rfl rfl rfl rfl rfl ?_
  refine go_aload_n 0 dX1_addLayer_0 rfl rfl ?_
  refine gx_getI (v := ((n : Nat) : Int)) dX1_addLayer_1 lk1_19.get hv.k0 hv.l0 rfl hn ?_
  refine go_bipush dX1_addLayer_4 (by decide) (by decide) ?_
  refine go_icmp_ge (tgt := 39) dX1_addLayer_6 rfl (fun c1 => ?_) (fun c1 => ?_)
  · exact absurd c1 (by omega)
  · refine go_aload_n 0 dX1_addLayer_9 rfl rfl ?_
    refine go_getR (r := (v + 1)) dX1_addLayer_10 lk1_28.get hv.k0 hv.l0 rfl (hv.p5 _) ?_
    refine go_aload_n 0 dX1_addLayer_13 rfl rfl ?_
    refine gx_getI (v := ((n : Nat) : Int)) dX1_addLayer_14 lk1_19.get hv.k0 hv.l0 rfl hn ?_
    refine go_iload_n 1 dX1_addLayer_17 rfl rfl ?_
    refine gx_iastore n dX1_addLayer_18 hv.k1 (hv.l (by omega)) hv.n1 rfl (by omega) ?_
    refine go_aload_n 0 dX1_addLayer_19 rfl rfl ?_
    refine go_getR (r := (v + 2)) dX1_addLayer_20 lk1_32.get hv.k0 hv.l0 rfl (hv.p6 _) ?_
    refine go_aload_n 0 dX1_addLayer_23 rfl rfl ?_
    refine gx_getI (v := ((n : Nat) : Int)) dX1_addLayer_24 lk1_19.get hv.k0 hv.l0 rfl ((up2_ne (by omega)).trans hn) ?_
    refine go_iload_n 2 dX1_addLayer_27 rfl rfl ?_
    refine gx_iastore n dX1_addLayer_28 hv.k2 (hv.l (by omega)) hv.n2 rfl (by omega) ?_
    refine go_aload_n 0 dX1_addLayer_29 rfl rfl ?_
    refine go_dup dX1_addLayer_30 rfl ?_
    refine gx_getI (v := ((n : Nat) : Int)) dX1_addLayer_31 lk1_19.get hv.k0 hv.l0 rfl ((up2_ne (by omega)).trans ((up2_ne (by omega)).trans hn)) ?_
    refine go_iconst dX1_addLayer_34 (by decide) ?_
    refine gx_iadd (v := ((n + 1 : Nat) : Int)) dX1_addLayer_35 (by omega) ⟨by omega, by omega⟩ ?_
    refine go_putI dX1_addLayer_36 (Or.inl lk1_19) hv.k0 hv.l0 rfl (Or.inl rfl) ?_
    refine go_ret dX1_addLayer_39 rfl ⟨rfl, ?_⟩
    exact hQ

def maddExecutor (M : inm) (v n : Nat) (x z : Int) : inm := up2 (up2 (up2 M (v + 3) n x) (v + 4) n z) v 3 ((n + 1 : Nat) : Int)
set_option maxHeartbeats 4000000 in
set_option maxRecDepth 100000 in
theorem ok_X1_addExecutor {v w n : Nat} {x z : Int} {M : inm} {Q : Nat → rfm → inm → Prop} (hv : Cs v) (hn : M v 3 = (n : Int)) (h12 : n < 5) (hQ : Q 303 (PP w) (maddExecutor M v n x z)) : OkV yX1_addExecutor cX1_addExecutor 3 0 0 0 [vR v, vI x, vI z] 303 (PP w) M Q := by
  refine OkV.of (by decide +kernel) (by decide +kernel) (Nat.le_of_ble_eq_true rfl) ?_
  refine go_eq (lv' := [(0, vR v), (1, vI x), (2, vI z)]) rfl rfl rfl rfl rfl ?_
  refine go_aload_n 0 dX1_addExecutor_0 rfl rfl ?_
  refine gx_getI (v := ((n : Nat) : Int)) dX1_addExecutor_1 lk1_22.get hv.k0 hv.l0 rfl hn ?_
  refine go_iconst dX1_addExecutor_4 (by decide) ?_
  refine go_icmp_ge (tgt := 38) dX1_addExecutor_5 rfl (fun c1 => ?_) (fun c1 => ?_)
  · exact absurd c1 (by omega)
  · refine go_aload_n 0 dX1_addExecutor_8 rfl rfl ?_
    refine go_getR (r := (v + 3)) dX1_addExecutor_9 lk1_35.get hv.k0 hv.l0 rfl (hv.p7 _) ?_
    refine go_aload_n 0 dX1_addExecutor_12 rfl rfl ?_
    refine gx_getI (v := ((n : Nat) : Int)) dX1_addExecutor_13 lk1_22.get hv.k0 hv.l0 rfl hn ?_
    refine go_iload_n 1 dX1_addExecutor_16 rfl rfl ?_
    refine gx_iastore n dX1_addExecutor_17 hv.k3 (hv.l (by omega)) hv.n3 rfl (by omega) ?_
    refine go_aload_n 0 dX1_addExecutor_18 rfl rfl ?_
    refine go_getR (r := (v + 4)) dX1_addExecutor_19 lk1_38.get hv.k0 hv.l0 rfl (hv.p8 _) ?_
    refine go_aload_n 0 dX1_addExecutor_22 rfl rfl ?_
    refine gx_getI (v := ((n : Nat) : Int)) dX1_addExecutor_23 lk1_22.get hv.k0 hv.l0 rfl ((up2_ne (by omega)).trans hn) ?_
    refine go_iload_n 2 dX1_addExecutor_26 rfl rfl ?_
    refine gx_iastore n dX1_addExecutor_27 hv.k4 (hv.l (by omega)) hv.n4 rfl (by omega) ?_
    refine go_aload_n 0 dX1_addExecutor_28 rfl rfl ?_
    refine go_dup dX1_addExecutor_29 rfl ?_
    refine gx_getI (v := ((n : Nat) : Int)) dX1_addExecutor_30 lk1_22.get hv.k0 hv.l0 rfl ((up2_ne (by omega)).trans ((up2_ne (by omega)).trans hn)) ?_
    refine go_iconst dX1_addExecutor_33 (by decide) ?_
    refine gx_iadd (v := ((n + 1 : Nat) : Int)) dX1_addExecutor_34 (by omega) ⟨by omega, by omega⟩ ?_
    refine go_putI dX1_addExecutor_35 (Or.inl lk1_22) hv.k0 hv.l0 rfl (Or.inl rfl) ?_
    refine go_ret dX1_addExecutor_38 rfl ⟨rfl, ?_⟩
    exact hQ

def maddType (M : inm) (v n u : Nat) : inm := up2 (up2 (cp2 M 3 0 (v + 7 + n) 0 u) (v + 5) n (u : Int)) v 4 ((n + 1 : Nat) : Int)
set_option maxHeartbeats 4000000 in
set_option maxRecDepth 100000 in
theorem ok_X1_addType {v w n u : Nat} {M : inm} {Q : Nat → rfm → inm → Prop} (hv : Cs v) (hn : M v 4 = (n : Int)) (h6 : n < 6) (hu : u ≤ 8) (hQ : Q 303 (PP w) (maddType M v n u)) : OkV yX1_addType cX1_addType 3 1 0 0 [vR v, vR 3, vI ((u : Nat) : Int)] 303 (PP w) M Q := by
  refine OkV.of (by decide +kernel) (by decide +kernel) (Nat.le_of_ble_eq_true rfl) ?_
  refine go_eq (lv' := [(0, vR v), (1, vR 3), (2, vI ((u : Nat) : Int))]) rfl rfl rfl rfl rfl ?_
  refine go_aload_n 0 dX1_addType_0 rfl rfl ?_
  refine gx_getI (v := ((n : Nat) : Int)) dX1_addType_1 lk1_25.get hv.k0 hv.l0 rfl hn ?_
  refine go_bipush dX1_addType_4 (by decide) (by decide) ?_
  refine go_icmp_ge (tgt := 61) dX1_addType_6 rfl (fun c1 => ?_) (fun c1 => ?_)
  · exact absurd c1 (by omega)
  · refine go_iload_n 2 dX1_addType_9 rfl rfl ?_
    refine go_if_lt (tgt := 61) dX1_addType_10 rfl (fun c2 => ?_) (fun c2 => ?_)
    · exact absurd c2 (by omega)
    · refine go_iload_n 2 dX1_addType_13 rfl rfl ?_
      refine go_bipush dX1_addType_14 (by decide) (by decide) ?_
      refine go_icmp_gt (tgt := 61) dX1_addType_16 rfl (fun c3 => ?_) (fun c3 => ?_)
      · exact absurd c3 (by omega)
      · refine go_iload_n 2 dX1_addType_19 rfl rfl ?_
        refine go_aload_n 1 dX1_addType_20 rfl rfl ?_
        refine go_alen (c0 := 0) dX1_addType_21 kd_3 (by decide) (by omega) (by rw [ln_3]; decide) ?_
        rw [ln_3]
        refine go_icmp_gt (tgt := 61) dX1_addType_22 rfl (fun c4 => ?_) (fun c4 => ?_)
        · exact absurd c4 (by omega)
        · refine go_aload_n 1 dX1_addType_25 rfl rfl ?_
          refine go_iconst dX1_addType_26 (by decide) ?_
          refine go_aload_n 0 dX1_addType_27 rfl rfl ?_
          refine go_getR (r := (v + 6)) dX1_addType_28 lk1_46.get hv.k0 hv.l0 rfl (hv.p10 _) ?_
          refine go_aload_n 0 dX1_addType_31 rfl rfl ?_
          refine gx_getI (v := ((n : Nat) : Int)) dX1_addType_32 lk1_25.get hv.k0 hv.l0 rfl hn ?_
          refine gx_aaload (c0 := 4) (r := (v + 7 + n)) n dX1_addType_35 hv.k6 (by decide) (by decide) (hv.l (by omega)) hv.n6 rfl (by omega) (hv.pt _ (by omega)) ?_
          refine go_iconst dX1_addType_36 (by decide) ?_
          refine go_iload_n 2 dX1_addType_37 rfl rfl ?_
          refine gx_copy 0 0 u dX1_addType_38 ac1_49 (by decide) kd_3 (hv.kt (by omega)) (by omega) (hv.lt (by omega)) rfl ln_3 (hv.nt (by omega)) (by omega) (by omega) rfl (by omega) (by omega) (Nat.le_of_ble_eq_true rfl) ?_
          refine go_aload_n 0 dX1_addType_41 rfl rfl ?_
          refine go_getR (r := (v + 5)) dX1_addType_42 lk1_41.get hv.k0 hv.l0 rfl (hv.p9 _) ?_
          refine go_aload_n 0 dX1_addType_45 rfl rfl ?_
          refine gx_getI (v := ((n : Nat) : Int)) dX1_addType_46 lk1_25.get hv.k0 hv.l0 rfl ((cp2_ne (by omega)).trans hn) ?_
          refine go_iload_n 2 dX1_addType_49 rfl rfl ?_
          refine gx_iastore n dX1_addType_50 hv.k5 (hv.l (by omega)) hv.n5 rfl (by omega) ?_
          refine go_aload_n 0 dX1_addType_51 rfl rfl ?_
          refine go_dup dX1_addType_52 rfl ?_
          refine gx_getI (v := ((n : Nat) : Int)) dX1_addType_53 lk1_25.get hv.k0 hv.l0 rfl ((up2_ne (by omega)).trans ((cp2_ne (by omega)).trans hn)) ?_
          refine go_iconst dX1_addType_56 (by decide) ?_
          refine gx_iadd (v := ((n + 1 : Nat) : Int)) dX1_addType_57 (by omega) ⟨by omega, by omega⟩ ?_
          refine go_putI dX1_addType_58 (Or.inl lk1_25) hv.k0 hv.l0 rfl (Or.inl rfl) ?_
          refine go_ret dX1_addType_61 rfl ⟨rfl, ?_⟩
          exact hQ

def mBook (M : inm) (c : Nat) (x z : Int) : inm := up2 (up2 (up2 M 271 c x) 272 c z) 270 2 ((c + 1 : Nat) : Int)
set_option maxHeartbeats 4000000 in
set_option maxRecDepth 100000 in
theorem ok_X0_add {w c : Nat} {x z : Int} {M : inm} {Q : Int → Nat → rfm → inm → Prop} (hc : M 270 2 = (c : Int)) (h20 : c ≤ 20) (h1 : c < 20 → Q ((c + 1 : Nat) : Int) 303 (PP w) (mBook M c x z)) (h0 : c = 20 → Q (-1000000004) 303 (PP w) M) : OkI yX0_add cX0_add 3 0 0 0 (some .int) [vR 270, vI x, vI z] 303 (PP w) M Q := by
  refine OkI.of (by decide +kernel) (by decide +kernel) (Nat.le_of_ble_eq_true rfl) ?_
  refine go_eq (lv' := [(0, vR 270), (1, vI x), (2, vI z)]) rfl rfl rfl rfl rfl ?_
  refine go_aload_n 0 dX0_add_0 rfl rfl ?_
  refine gx_getI (v := ((c : Nat) : Int)) dX0_add_1 lk0_18.get kd_270 (by omega) rfl hc ?_
  refine go_bipush dX0_add_4 (by decide) (by decide) ?_
  refine go_icmp_lt (tgt := 12) dX0_add_6 rfl (fun c1 => ?_) (fun c1 => ?_)
  · refine go_aload_n 0 dX0_add_12 rfl rfl ?_
    refine go_getR (r := 271) dX0_add_13 lk0_9.get kd_270 (by omega) rfl (pp_270_0 w) ?_
    refine go_aload_n 0 dX0_add_16 rfl rfl ?_
    refine gx_getI (v := ((c : Nat) : Int)) dX0_add_17 lk0_18.get kd_270 (by omega) rfl hc ?_
    refine go_iload_n 1 dX0_add_20 rfl rfl ?_
    refine gx_iastore c dX0_add_21 kd_271 (by omega) ln_271 rfl (by omega) ?_
    refine go_aload_n 0 dX0_add_22 rfl rfl ?_
    refine go_getR (r := 272) dX0_add_23 lk0_15.get kd_270 (by omega) rfl (pp_270_1 w) ?_
    refine go_aload_n 0 dX0_add_26 rfl rfl ?_
    refine gx_getI (v := ((c : Nat) : Int)) dX0_add_27 lk0_18.get kd_270 (by omega) rfl ((up2_ne (by omega)).trans hc) ?_
    refine go_iload_n 2 dX0_add_30 rfl rfl ?_
    refine gx_iastore c dX0_add_31 kd_272 (by omega) ln_272 rfl (by omega) ?_
    refine go_aload_n 0 dX0_add_32 rfl rfl ?_
    refine go_dup dX0_add_33 rfl ?_
    refine gx_getI (v := ((c : Nat) : Int)) dX0_add_34 lk0_18.get kd_270 (by omega) rfl ((up2_ne (by omega)).trans ((up2_ne (by omega)).trans hc)) ?_
    refine go_iconst dX0_add_37 (by decide) ?_
    refine gx_iadd (v := ((c + 1 : Nat) : Int)) dX0_add_38 (by omega) ⟨by omega, by omega⟩ ?_
    refine go_putI dX0_add_39 (Or.inl lk0_18) kd_270 (by omega) rfl (Or.inl rfl) ?_
    refine go_aload_n 0 dX0_add_42 rfl rfl ?_
    refine gx_getI (v := ((c + 1 : Nat) : Int)) dX0_add_43 lk0_18.get kd_270 (by omega) rfl up2_same ?_
    refine go_iret dX0_add_46 rfl rfl ⟨_, rfl, ?_⟩
    first | exact h1 (by omega) | exact h0 (by omega)
  · refine go_ldc dX0_add_9 ik0_22 (by decide) ?_
    refine go_iret dX0_add_11 rfl rfl ⟨_, rfl, ?_⟩
    first | exact h1 (by omega) | exact h0 (by omega)

set_option maxHeartbeats 4000000 in
set_option maxRecDepth 100000 in
theorem lp_X0_firstWrong {a w c : Nat} {M : inm} {Q : Int → Nat → rfm → inm → Prop} (ha : On a) (hc : M 270 2 = (c : Int)) (h20 : c ≤ 20) (hb : ∀ i, i < c → 0 ≤ M 271 i ∧ M 271 i ≤ 4) : ∀ (d k : Nat), c < k + d → k ≤ c → Q (fst1 (fun i => decide (¬ M (a + 3) (M 271 i).toNat = M 272 i)) (c - k) k) 303 (PP w) M → Go S0 yX0_firstWrong cX0_firstWrong 4 0 0 0 (some .int) 2 [(2, vI ((k : Nat) : Int)), (0, vR 270), (1, vR a)] [] 303 (PP w) M (fun v n P M => ∃ z, v = some (vI z) ∧ Q z n P M) := by
  intro d
  induction d with
  | zero => intro k h1 h2 hQ; exfalso; omega
  | succ d ih =>
    intro k h1 h2 hQ
    refine go_iload_n 0 dX0_firstWrong_2 rfl rfl ?_
    refine go_aload_n 1 dX0_firstWrong_3 rfl rfl ?_
    refine gx_getI (v := ((c : Nat) : Int)) dX0_firstWrong_4 lk0_18.get kd_270 (by omega) rfl hc ?_
    refine go_icmp_ge (tgt := 49) dX0_firstWrong_7 rfl (fun c1 => ?_) (fun c1 => ?_)
    · refine go_iconst dX0_firstWrong_49 (by decide) ?_
      refine go_iret dX0_firstWrong_50 rfl rfl ⟨_, rfl, ?_⟩
      rw [show c - k = 0 by omega, fst1] at hQ
      exact hQ
    · refine go_aload_n 1 dX0_firstWrong_10 rfl rfl ?_
      refine go_getR (r := 271) dX0_firstWrong_11 lk0_9.get kd_270 (by omega) rfl (pp_270_0 w) ?_
      refine go_iload_n 0 dX0_firstWrong_14 rfl rfl ?_
      have f2 := hb k (by omega)
      refine gx_iaload (v := (M 271 k)) k dX0_firstWrong_15 kd_271 (by omega) ln_271 rfl (by omega) rfl ?_
      refine go_istore_n (lv' := [(3, vI (M 271 k)), (2, vI ((k : Nat) : Int)), (0, vR 270), (1, vR a)]) dX0_firstWrong_16 rfl (by decide) rfl ?_
      refine go_iload_n 0 dX0_firstWrong_17 rfl rfl ?_
      refine go_if_lt (tgt := 43) dX0_firstWrong_18 rfl (fun c3 => ?_) (fun c3 => ?_)
      · exact absurd c3 (by omega)
      · refine go_iload_n 0 dX0_firstWrong_21 rfl rfl ?_
        refine go_iconst dX0_firstWrong_22 (by decide) ?_
        refine go_icmp_ge (tgt := 43) dX0_firstWrong_23 rfl (fun c4 => ?_) (fun c4 => ?_)
        · exact absurd c4 (by omega)
        · refine go_aload_n 3 dX0_firstWrong_26 rfl rfl ?_
          refine go_getR (r := (a + 3)) dX0_firstWrong_27 lk0_23 ha.k0 ha.l0 rfl (ha.p3 _) ?_
          refine go_iload_n 0 dX0_firstWrong_30 rfl rfl ?_
          refine gx_iaload (v := (M (a + 3) (((M 271 k)).toNat))) (((M 271 k)).toNat) dX0_firstWrong_31 ha.k3 ha.l3 ha.n3 (by omega) (by omega) rfl ?_
          refine go_aload_n 2 dX0_firstWrong_32 rfl rfl ?_
          refine go_getR (r := 272) dX0_firstWrong_33 lk0_15.get kd_270 (by omega) rfl (pp_270_1 w) ?_
          refine go_iload_n 1 dX0_firstWrong_36 rfl rfl ?_
          refine gx_iaload (v := (M 272 k)) k dX0_firstWrong_37 kd_272 (by omega) ln_272 rfl (by omega) rfl ?_
          refine go_icmp_eq (tgt := 43) dX0_firstWrong_38 rfl (fun c5 => ?_) (fun c5 => ?_)
          · refine gx_iinc (v := ((k + 1 : Nat) : Int)) (lv' := [(2, vI ((k + 1 : Nat) : Int)), (3, vI (M 271 k)), (0, vR 270), (1, vR a)]) 1 dX0_firstWrong_43 rfl (by omega) ⟨by omega, by omega⟩ (by decide) rfl ?_
            refine go_goto (tgt := 2) dX0_firstWrong_46 rfl ?_
            refine go_lv [0, 2, 3] rfl ?_
            rw [fst1_go (by omega) (decide_eq_false (fun q => q (by assumption)))] at hQ; exact ih (k + 1) (by omega) (by omega) hQ
          · refine go_iload_n 1 dX0_firstWrong_41 rfl rfl ?_
            refine go_iret dX0_firstWrong_42 rfl rfl ⟨_, rfl, ?_⟩
            rw [fst1_hit (by omega) (decide_eq_true (by assumption))] at hQ
            exact hQ

set_option maxHeartbeats 4000000 in
set_option maxRecDepth 100000 in
theorem ok_X0_firstWrong {a w c : Nat} {M : inm} {Q : Int → Nat → rfm → inm → Prop} (ha : On a) (hc : M 270 2 = (c : Int)) (h20 : c ≤ 20) (hb : ∀ i, i < c → 0 ≤ M 271 i ∧ M 271 i ≤ 4) (hQ : Q (fst1 (fun i => decide (¬ M (a + 3) (M 271 i).toNat = M 272 i)) c 0) 303 (PP w) M) : OkI yX0_firstWrong cX0_firstWrong 4 0 0 0 (some .int) [vR 270, vR a] 303 (PP w) M Q := by
  refine OkI.of (by decide +kernel) (by decide +kernel) (Nat.le_of_ble_eq_true rfl) ?_
  refine go_eq (lv' := [(0, vR 270), (1, vR a)]) rfl rfl rfl rfl rfl ?_
  refine go_iconst dX0_firstWrong_0 (by decide) ?_
  refine go_istore_n (lv' := [(2, vI 0), (0, vR 270), (1, vR a)]) dX0_firstWrong_1 rfl (by decide) rfl ?_
  exact lp_X0_firstWrong ha hc h20 hb (c + 1) 0 (by omega) (by omega) hQ

def drawC (s : Int) : Int := (wr (wr (s * 1103515245) + 12345)) % ((2 ^ 31 : Nat) : Int)
theorem drawC_in (s : Int) : 0 ≤ drawC s ∧ drawC s ≤ 2147483647 := by
  unfold drawC
  have h1 := Int.emod_nonneg (wr (wr (s * 1103515245) + 12345)) (show ((2 ^ 31 : Nat) : Int) ≠ 0 by decide)
  have h2 := Int.emod_lt_of_pos (wr (wr (s * 1103515245) + 12345)) (show 0 < ((2 ^ 31 : Nat) : Int) by decide)
  omega
set_option maxHeartbeats 4000000 in
set_option maxRecDepth 100000 in
theorem ok_X3_below {w : Nat} {u : Int} {M : inm} {Q : Int → Nat → rfm → inm → Prop} (h1 : 1 ≤ u → Q (drawC (M 278 0) / 65536 % u) 303 (PP w) (up2 M 278 0 (drawC (M 278 0)))) (h0 : u < 1 → Q 0 303 (PP w) (up2 M 278 0 (drawC (M 278 0)))) : OkI yX3_below cX3_below 2 0 0 0 (some .int) [vR 278, vI u] 303 (PP w) M Q := by
  refine OkI.of (by decide +kernel) (by decide +kernel) (Nat.le_of_ble_eq_true rfl) ?_
  refine go_eq (lv' := [(0, vR 278), (1, vI u)]) rfl rfl rfl rfl rfl ?_
  have hd := drawC_in (M 278 0)
  unfold drawC at hd
  have hd2 := Int.ediv_nonneg hd.1 (show (0 : Int) ≤ 65536 by decide)
  refine go_aload_n 0 dX3_below_0 rfl rfl ?_
  refine go_aload_n 0 dX3_below_1 rfl rfl ?_
  refine gx_getI (v := (M 278 0)) dX3_below_2 lk3_7.get kd_278 (by omega) rfl rfl ?_
  refine go_ldc dX3_below_5 ik3_13 (by decide) ?_
  refine go_imulW dX3_below_7 ?_
  refine go_sipush dX3_below_8 (by decide) (by decide) ?_
  refine go_iaddW dX3_below_11 ?_
  refine go_ldc dX3_below_12 ik3_14 (by decide) ?_
  refine go_imask dX3_below_14 31 (by decide) (by decide) ?_
  refine go_putI dX3_below_15 (Or.inl lk3_7) kd_278 (by omega) rfl (Or.inl rfl) ?_
  refine go_iload_n 1 dX3_below_18 rfl rfl ?_
  refine go_iconst dX3_below_19 (by decide) ?_
  refine go_icmp_ge (tgt := 27) dX3_below_20 rfl (fun c1 => ?_) (fun c1 => ?_)
  · refine go_aload_n 0 dX3_below_27 rfl rfl ?_
    refine gx_getI (v := ((wr ((wr ((M 278 0) * 1103515245)) + 12345)) % ((2 ^ 31 : Nat) : Int))) dX3_below_28 lk3_7.get kd_278 (by omega) rfl up2_same ?_
    refine go_ldc dX3_below_31 ik3_15 (by decide) ?_
    refine gx_idiv (v := (((wr ((wr ((M 278 0) * 1103515245)) + 12345)) % ((2 ^ 31 : Nat) : Int)) / 65536)) dX3_below_33 rfl (by omega) (by omega) ?_
    refine go_iload_n 1 dX3_below_34 rfl rfl ?_
    refine gx_irem (v := ((((wr ((wr ((M 278 0) * 1103515245)) + 12345)) % ((2 ^ 31 : Nat) : Int)) / 65536) % u)) dX3_below_35 rfl (by omega) (by omega) ?_
    refine go_iret dX3_below_36 rfl rfl ⟨_, rfl, ?_⟩
    first | exact h1 (by omega) | exact h0 (by omega)
  · refine go_iconst dX3_below_23 (by decide) ?_
    refine go_goto (tgt := 36) dX3_below_24 rfl ?_
    refine go_iret dX3_below_36 rfl rfl ⟨_, rfl, ?_⟩
    first | exact h1 (by omega) | exact h0 (by omega)

def mGuess (M : inm) (c : Nat) (x z b : Int) : inm := up2 (up2 (up2 (up2 M 267 c x) 268 c z) 269 c b) 266 3 ((c + 1 : Nat) : Int)
set_option maxHeartbeats 4000000 in
set_option maxRecDepth 100000 in
theorem ok_X4_add {w c : Nat} {x z b : Int} {M : inm} {Q : Int → Nat → rfm → inm → Prop} (hb : b = 0 ∨ b = 1) (hc : M 266 3 = (c : Int)) (h6 : c ≤ 6) (h1 : c < 6 → Q ((c + 1 : Nat) : Int) 303 (PP w) (mGuess M c x z b)) (h0 : c = 6 → Q (-1000000004) 303 (PP w) M) : OkI yX4_add cX4_add 4 0 0 0 (some .int) [vR 266, vI x, vI z, vI b] 303 (PP w) M Q := by
  refine OkI.of (by decide +kernel) (by decide +kernel) (Nat.le_of_ble_eq_true rfl) ?_
  refine go_eq (lv' := [(0, vR 266), (1, vI x), (2, vI z), (3, vI b)]) rfl rfl rfl rfl rfl ?_
  refine go_aload_n 0 dX4_add_0 rfl rfl ?_
  refine gx_getI (v := ((c : Nat) : Int)) dX4_add_1 lk4_22.get kd_266 (by omega) rfl hc ?_
  refine go_bipush dX4_add_4 (by decide) (by decide) ?_
  refine go_icmp_lt (tgt := 12) dX4_add_6 rfl (fun c1 => ?_) (fun c1 => ?_)
  · refine go_aload_n 0 dX4_add_12 rfl rfl ?_
    refine go_getR (r := 267) dX4_add_13 lk4_9.get kd_266 (by omega) rfl (pp_266_0 w) ?_
    refine go_aload_n 0 dX4_add_16 rfl rfl ?_
    refine gx_getI (v := ((c : Nat) : Int)) dX4_add_17 lk4_22.get kd_266 (by omega) rfl hc ?_
    refine go_iload_n 1 dX4_add_20 rfl rfl ?_
    refine gx_iastore c dX4_add_21 kd_267 (by omega) ln_267 rfl (by omega) ?_
    refine go_aload_n 0 dX4_add_22 rfl rfl ?_
    refine go_getR (r := 268) dX4_add_23 lk4_15.get kd_266 (by omega) rfl (pp_266_1 w) ?_
    refine go_aload_n 0 dX4_add_26 rfl rfl ?_
    refine gx_getI (v := ((c : Nat) : Int)) dX4_add_27 lk4_22.get kd_266 (by omega) rfl ((up2_ne (by omega)).trans hc) ?_
    refine go_iload_n 2 dX4_add_30 rfl rfl ?_
    refine gx_iastore c dX4_add_31 kd_268 (by omega) ln_268 rfl (by omega) ?_
    refine go_aload_n 0 dX4_add_32 rfl rfl ?_
    refine go_getR (r := 269) dX4_add_33 lk4_18.get kd_266 (by omega) rfl (pp_266_2 w) ?_
    refine go_aload_n 0 dX4_add_36 rfl rfl ?_
    refine gx_getI (v := ((c : Nat) : Int)) dX4_add_37 lk4_22.get kd_266 (by omega) rfl ((up2_ne (by omega)).trans ((up2_ne (by omega)).trans hc)) ?_
    refine go_iload_n 3 dX4_add_40 rfl rfl ?_
    refine gx_bastore c dX4_add_41 kd_269 (by omega) rfl ln_269 rfl (by omega) (by omega) ?_
    refine go_aload_n 0 dX4_add_42 rfl rfl ?_
    refine go_dup dX4_add_43 rfl ?_
    refine gx_getI (v := ((c : Nat) : Int)) dX4_add_44 lk4_22.get kd_266 (by omega) rfl ((up2_ne (by omega)).trans ((up2_ne (by omega)).trans ((up2_ne (by omega)).trans hc))) ?_
    refine go_iconst dX4_add_47 (by decide) ?_
    refine gx_iadd (v := ((c + 1 : Nat) : Int)) dX4_add_48 (by omega) ⟨by omega, by omega⟩ ?_
    refine go_putI dX4_add_49 (Or.inl lk4_22) kd_266 (by omega) rfl (Or.inl rfl) ?_
    refine go_aload_n 0 dX4_add_52 rfl rfl ?_
    refine gx_getI (v := ((c + 1 : Nat) : Int)) dX4_add_53 lk4_22.get kd_266 (by omega) rfl up2_same ?_
    refine go_iret dX4_add_56 rfl rfl ⟨_, rfl, ?_⟩
    first | exact h1 (by omega) | exact h0 (by omega)
  · refine go_ldc dX4_add_9 ik4_26 (by decide) ?_
    refine go_iret dX4_add_11 rfl rfl ⟨_, rfl, ?_⟩
    first | exact h1 (by omega) | exact h0 (by omega)

set_option maxHeartbeats 4000000 in
set_option maxRecDepth 100000 in
theorem lp_X4_fits {v w T t c : Nat} {lt gk : Nat → Nat} {M : inm} {Q : Int → Nat → rfm → inm → Prop} (hv : Cs v) (hT : Tys M v T lt) (ht : t < T) (hc : M 266 3 = (c : Int)) (h6 : c ≤ 6) (hg : ∀ i, i < c → M 267 i = (gk i : Int)) (h1 : allTo (fun i => decide ((if kindV lt (fun t k => M (v + 7 + t) k) t (gk i) = M 268 i then 1 else 0) = M 269 i)) c = true → Q 1 303 (PP w) M) (h0 : allTo (fun i => decide ((if kindV lt (fun t k => M (v + 7 + t) k) t (gk i) = M 268 i then 1 else 0) = M 269 i)) c = false → Q 0 303 (PP w) M) : ∀ (d k : Nat), c < k + d → k ≤ c → allTo (fun i => decide ((if kindV lt (fun t k => M (v + 7 + t) k) t (gk i) = M 268 i then 1 else 0) = M 269 i)) k = true → Go S0 yX4_fits cX4_fits 5 1 0 0 (some .boolean) 2 [(3, vI ((k : Nat) : Int)), (0, vR 266), (1, vR v), (2, vI ((t : Nat) : Int))] [] 303 (PP w) M (fun v n P M => ∃ z, v = some (vI z) ∧ Q z n P M) := by
  intro d
  induction d with
  | zero => intro k h1 h2; exfalso; omega
  | succ d ih =>
    intro k g1 g2 hk
    refine go_iload_n 0 dX4_fits_2 rfl rfl ?_
    refine go_aload_n 1 dX4_fits_3 rfl rfl ?_
    refine gx_getI (v := ((c : Nat) : Int)) dX4_fits_4 lk4_22.get kd_266 (by omega) rfl hc ?_
    refine go_icmp_ge (tgt := 56) dX4_fits_7 rfl (fun c1 => ?_) (fun c1 => ?_)
    · refine go_iconst dX4_fits_56 (by decide) ?_
      refine go_iret dX4_fits_57 rfl rfl ⟨_, rfl, ?_⟩
      exact h1 (by rw [← show k = c by omega]; exact hk)
    · refine go_aload_n 2 dX4_fits_10 rfl rfl ?_
      refine go_iload_n 3 dX4_fits_11 rfl rfl ?_
      refine go_aload_n 1 dX4_fits_12 rfl rfl ?_
      refine go_getR (r := 267) dX4_fits_13 lk4_9.get kd_266 (by omega) rfl (pp_266_0 w) ?_
      refine go_iload_n 0 dX4_fits_16 rfl rfl ?_
      refine gx_iaload (v := ((gk k : Nat) : Int)) k dX4_fits_17 kd_267 (by omega) ln_267 rfl (by omega) ((hg k (by omega))) ?_
      refine go_callVI (av := [vI ((t : Nat) : Int), vI ((gk k : Nat) : Int)]) (st := []) (a := v) (mc2 := 0) (ms2 := 0) dX4_fits_18 cw4_36 (by decide) rfl rfl (Nat.le_of_ble_eq_true rfl) rfl rfl hv.k0 ⟨_, _, rfl⟩ (by decide) hv.l0 (ok_X1_kindOfType (t := t) (k := gk k) hv hT (by omega) ?_)
      refine go_aload_n 1 dX4_fits_21 rfl rfl ?_
      refine go_getR (r := 268) dX4_fits_22 lk4_15.get kd_266 (by omega) rfl (pp_266_1 w) ?_
      refine go_iload_n 0 dX4_fits_25 rfl rfl ?_
      refine gx_iaload (v := (M 268 k)) k dX4_fits_26 kd_268 (by omega) ln_268 rfl (by omega) rfl ?_
      refine go_icmp_ne (tgt := 34) dX4_fits_27 rfl (fun c2 => ?_) (fun c2 => ?_)
      · refine go_iconst dX4_fits_34 (by decide) ?_
        refine go_istore (lv' := [(4, vI 0), (3, vI ((k : Nat) : Int)), (0, vR 266), (1, vR v), (2, vI ((t : Nat) : Int))]) dX4_fits_35 (by decide) rfl ?_
        refine go_iload 0 dX4_fits_37 rfl ?_
        refine go_aload_n 2 dX4_fits_39 rfl rfl ?_
        refine go_getR (r := 269) dX4_fits_40 lk4_18.get kd_266 (by omega) rfl (pp_266_2 w) ?_
        refine go_iload_n 1 dX4_fits_43 rfl rfl ?_
        refine gx_baload (v := (M 269 k)) k dX4_fits_44 kd_269 (by omega) ln_269 rfl (by omega) rfl ?_
        refine go_icmp_eq (tgt := 50) dX4_fits_45 rfl (fun c3 => ?_) (fun c3 => ?_)
        · refine gx_iinc (v := ((k + 1 : Nat) : Int)) (lv' := [(3, vI ((k + 1 : Nat) : Int)), (4, vI 0), (0, vR 266), (1, vR v), (2, vI ((t : Nat) : Int))]) 1 dX4_fits_50 rfl (by omega) ⟨by omega, by omega⟩ (by decide) rfl ?_
          refine go_goto (tgt := 2) dX4_fits_53 rfl ?_
          refine go_lv [0, 2, 3, 4] rfl ?_
          exact ih (k + 1) (by omega) (by omega) (allTo_s hk (decide_eq_true (by first | (rw [if_pos (by assumption)]; omega) | (rw [if_neg (by assumption)]; omega))))
        · refine go_iconst dX4_fits_48 (by decide) ?_
          refine go_iret dX4_fits_49 rfl rfl ⟨_, rfl, ?_⟩
          exact h0 (allTo_no (k := k) (decide_eq_false (by first | (rw [if_pos (by assumption)]; omega) | (rw [if_neg (by assumption)]; omega))) _ (by omega))
      · refine go_iconst dX4_fits_30 (by decide) ?_
        refine go_goto (tgt := 35) dX4_fits_31 rfl ?_
        refine go_istore (lv' := [(4, vI 1), (3, vI ((k : Nat) : Int)), (0, vR 266), (1, vR v), (2, vI ((t : Nat) : Int))]) dX4_fits_35 (by decide) rfl ?_
        refine go_iload 0 dX4_fits_37 rfl ?_
        refine go_aload_n 2 dX4_fits_39 rfl rfl ?_
        refine go_getR (r := 269) dX4_fits_40 lk4_18.get kd_266 (by omega) rfl (pp_266_2 w) ?_
        refine go_iload_n 1 dX4_fits_43 rfl rfl ?_
        refine gx_baload (v := (M 269 k)) k dX4_fits_44 kd_269 (by omega) ln_269 rfl (by omega) rfl ?_
        refine go_icmp_eq (tgt := 50) dX4_fits_45 rfl (fun c4 => ?_) (fun c4 => ?_)
        · refine gx_iinc (v := ((k + 1 : Nat) : Int)) (lv' := [(3, vI ((k + 1 : Nat) : Int)), (4, vI 1), (0, vR 266), (1, vR v), (2, vI ((t : Nat) : Int))]) 1 dX4_fits_50 rfl (by omega) ⟨by omega, by omega⟩ (by decide) rfl ?_
          refine go_goto (tgt := 2) dX4_fits_53 rfl ?_
          refine go_lv [0, 2, 3, 4] rfl ?_
          exact ih (k + 1) (by omega) (by omega) (allTo_s hk (decide_eq_true (by first | (rw [if_pos (by assumption)]; omega) | (rw [if_neg (by assumption)]; omega))))
        · refine go_iconst dX4_fits_48 (by decide) ?_
          refine go_iret dX4_fits_49 rfl rfl ⟨_, rfl, ?_⟩
          exact h0 (allTo_no (k := k) (decide_eq_false (by first | (rw [if_pos (by assumption)]; omega) | (rw [if_neg (by assumption)]; omega))) _ (by omega))

set_option maxHeartbeats 4000000 in
set_option maxRecDepth 100000 in
theorem ok_X4_fits {v w T t c : Nat} {lt gk : Nat → Nat} {M : inm} {Q : Int → Nat → rfm → inm → Prop} (hv : Cs v) (hT : Tys M v T lt) (ht : t < T) (hc : M 266 3 = (c : Int)) (h6 : c ≤ 6) (hg : ∀ i, i < c → M 267 i = (gk i : Int)) (h1 : allTo (fun i => decide ((if kindV lt (fun t k => M (v + 7 + t) k) t (gk i) = M 268 i then 1 else 0) = M 269 i)) c = true → Q 1 303 (PP w) M) (h0 : allTo (fun i => decide ((if kindV lt (fun t k => M (v + 7 + t) k) t (gk i) = M 268 i then 1 else 0) = M 269 i)) c = false → Q 0 303 (PP w) M) : OkI yX4_fits cX4_fits 5 1 0 0 (some .boolean) [vR 266, vR v, vI ((t : Nat) : Int)] 303 (PP w) M Q := by
  refine OkI.of (by decide +kernel) (by decide +kernel) (Nat.le_of_ble_eq_true rfl) ?_
  refine go_eq (lv' := [(0, vR 266), (1, vR v), (2, vI ((t : Nat) : Int))]) rfl rfl rfl rfl rfl ?_
  refine go_iconst dX4_fits_0 (by decide) ?_
  refine go_istore_n (lv' := [(3, vI 0), (0, vR 266), (1, vR v), (2, vI ((t : Nat) : Int))]) dX4_fits_1 rfl (by decide) rfl ?_
  exact lp_X4_fits hv hT ht hc h6 hg h1 h0 (c + 1) 0 (by omega) (by omega) rfl

set_option maxHeartbeats 4000000 in
set_option maxRecDepth 100000 in
theorem lp_X4_fitting {v w T c : Nat} {lt gk : Nat → Nat} {M : inm} {Q : Int → Nat → rfm → inm → Prop} (hv : Cs v) (hT : Tys M v T lt) (hc : M 266 3 = (c : Int)) (h6 : c ≤ 6) (hg : ∀ i, i < c → M 267 i = (gk i : Int)) (hQ : Q ((orTo (setG (fun t => allTo (fun i => decide ((if kindV lt (fun t k => M (v + 7 + t) k) t (gk i) = M 268 i then 1 else 0) = M 269 i)) c)) T : Nat) : Int) 303 (PP w) M) : ∀ (d k : Nat), T < k + d → k ≤ T → Go S0 yX4_fitting cX4_fitting 4 2 0 0 (some .int) 4 [(3, vI ((k : Nat) : Int)), (2, vI ((orTo (setG (fun t => allTo (fun i => decide ((if kindV lt (fun t k => M (v + 7 + t) k) t (gk i) = M 268 i then 1 else 0) = M 269 i)) c)) k : Nat) : Int)), (0, vR 266), (1, vR v)] [] 303 (PP w) M (fun v n P M => ∃ z, v = some (vI z) ∧ Q z n P M) := by
  have hT6 := hT.2.1
  intro d
  induction d with
  | zero => intro k h1 h2; exfalso; omega
  | succ d ih =>
    intro k h1 h2
    refine go_iload_n 0 dX4_fitting_4 rfl rfl ?_
    refine go_aload_n 3 dX4_fitting_5 rfl rfl ?_
    refine gx_getI (v := ((T : Nat) : Int)) dX4_fitting_6 lk4_27.get hv.k0 hv.l0 rfl hT.1 ?_
    refine go_icmp_ge (tgt := 33) dX4_fitting_9 rfl (fun c1 => ?_) (fun c1 => ?_)
    · refine go_iload_n 1 dX4_fitting_33 rfl rfl ?_
      refine go_iret dX4_fitting_34 rfl rfl ⟨_, rfl, ?_⟩
      rw [show k = T by omega]
      exact hQ
    · refine go_aload_n 2 dX4_fitting_12 rfl rfl ?_
      refine go_aload_n 3 dX4_fitting_13 rfl rfl ?_
      refine go_iload_n 0 dX4_fitting_14 rfl rfl ?_
      refine go_callVI (av := [vR v, vI ((k : Nat) : Int)]) (st := []) (a := 266) (mc2 := 0) (ms2 := 0) dX4_fitting_15 cw4_32 (by decide) rfl rfl (Nat.le_of_ble_eq_true rfl) rfl rfl kd_266 ⟨_, _, rfl⟩ (by decide) (by omega) (ok_X4_fits (t := k) hv hT (by omega) hc h6 hg (fun b2 => ?_) (fun b3 => ?_))
      · skip
        refine go_if_eq (tgt := 27) dX4_fitting_18 rfl (fun c4 => ?_) (fun c4 => ?_)
        · exact absurd c4 (by omega)
        · refine go_iload_n 1 dX4_fitting_21 rfl rfl ?_
          refine go_iconst dX4_fitting_22 (by decide) ?_
          refine go_iload_n 0 dX4_fitting_23 rfl rfl ?_
          refine gx_shl k dX4_fitting_24 (by omega) (by omega) rfl ?_
          refine gx_ior (a := orTo (setG (fun t => allTo (fun i => decide ((if kindV lt (fun t k => M (v + 7 + t) k) t (gk i) = M 268 i then 1 else 0) = M 269 i)) c)) k) (b := (2 ^ k)) dX4_fitting_25 (by omega) (by omega) ?_
          refine go_istore_n (lv' := [(2, vI (((orTo (setG (fun t => allTo (fun i => decide ((if kindV lt (fun t k => M (v + 7 + t) k) t (gk i) = M 268 i then 1 else 0) = M 269 i)) c)) k) ||| (2 ^ k) : Nat) : Int)), (3, vI ((k : Nat) : Int)), (0, vR 266), (1, vR v)]) dX4_fitting_26 rfl (by decide) rfl ?_
          refine gx_iinc (v := ((k + 1 : Nat) : Int)) (lv' := [(3, vI ((k + 1 : Nat) : Int)), (2, vI (((orTo (setG (fun t => allTo (fun i => decide ((if kindV lt (fun t k => M (v + 7 + t) k) t (gk i) = M 268 i then 1 else 0) = M 269 i)) c)) k) ||| (2 ^ k) : Nat) : Int)), (0, vR 266), (1, vR v)]) 1 dX4_fitting_27 rfl (by omega) ⟨by omega, by omega⟩ (by decide) rfl ?_
          refine go_goto (tgt := 4) dX4_fitting_30 rfl ?_
          have e5 : (((orTo (setG (fun t => allTo (fun i => decide ((if kindV lt (fun t k => M (v + 7 + t) k) t (gk i) = M 268 i then 1 else 0) = M 269 i)) c)) k) ||| (2 ^ k) : Nat) : Int) = ((orTo (setG (fun t => allTo (fun i => decide ((if kindV lt (fun t k => M (v + 7 + t) k) t (gk i) = M 268 i then 1 else 0) = M 269 i)) c)) (k + 1) : Nat) : Int) := by (rw [orTo_s, setG]; simp_all)
          rw [e5]
          exact ih (k + 1) (by omega) (by omega)
      · skip
        refine go_if_eq (tgt := 27) dX4_fitting_18 rfl (fun c6 => ?_) (fun c6 => ?_)
        · refine gx_iinc (v := ((k + 1 : Nat) : Int)) (lv' := [(3, vI ((k + 1 : Nat) : Int)), (2, vI ((orTo (setG (fun t => allTo (fun i => decide ((if kindV lt (fun t k => M (v + 7 + t) k) t (gk i) = M 268 i then 1 else 0) = M 269 i)) c)) k : Nat) : Int)), (0, vR 266), (1, vR v)]) 0 dX4_fitting_27 rfl (by omega) ⟨by omega, by omega⟩ (by decide) rfl ?_
          refine go_goto (tgt := 4) dX4_fitting_30 rfl ?_
          have e7 : ((orTo (setG (fun t => allTo (fun i => decide ((if kindV lt (fun t k => M (v + 7 + t) k) t (gk i) = M 268 i then 1 else 0) = M 269 i)) c)) k : Nat) : Int) = ((orTo (setG (fun t => allTo (fun i => decide ((if kindV lt (fun t k => M (v + 7 + t) k) t (gk i) = M 268 i then 1 else 0) = M 269 i)) c)) (k + 1) : Nat) : Int) := by (rw [orTo_s, setG]; simp_all)
          rw [e7]
          exact ih (k + 1) (by omega) (by omega)
        · exact absurd rfl c6

set_option maxHeartbeats 4000000 in
set_option maxRecDepth 100000 in
theorem ok_X4_fitting {v w T c : Nat} {lt gk : Nat → Nat} {M : inm} {Q : Int → Nat → rfm → inm → Prop} (hv : Cs v) (hT : Tys M v T lt) (hc : M 266 3 = (c : Int)) (h6 : c ≤ 6) (hg : ∀ i, i < c → M 267 i = (gk i : Int)) (hQ : Q ((orTo (setG (fun t => allTo (fun i => decide ((if kindV lt (fun t k => M (v + 7 + t) k) t (gk i) = M 268 i then 1 else 0) = M 269 i)) c)) T : Nat) : Int) 303 (PP w) M) : OkI yX4_fitting cX4_fitting 4 2 0 0 (some .int) [vR 266, vR v] 303 (PP w) M Q := by
  refine OkI.of (by decide +kernel) (by decide +kernel) (Nat.le_of_ble_eq_true rfl) ?_
  refine go_eq (lv' := [(0, vR 266), (1, vR v)]) rfl rfl rfl rfl rfl ?_
  refine go_iconst dX4_fitting_0 (by decide) ?_
  refine go_istore_n (lv' := [(2, vI 0), (0, vR 266), (1, vR v)]) dX4_fitting_1 rfl (by decide) rfl ?_
  refine go_iconst dX4_fitting_2 (by decide) ?_
  refine go_istore_n (lv' := [(3, vI 0), (2, vI 0), (0, vR 266), (1, vR v)]) dX4_fitting_3 rfl (by decide) rfl ?_
  exact lp_X4_fitting hv hT hc h6 hg hQ (T + 1) 0 (by omega) (by omega)

def mForget (M : inm) : inm := up2 (up2 M 37 1 0) 37 2 0
def mRem (M : inm) (x c : Nat) : inm := up2 (up2 (mCopy M (39 + 7 * x) 30) 37 1 (((x + 1) % 30 : Nat) : Int)) 37 2 ((min 30 (c + 1) : Nat) : Int)
def mBack (M : inm) (x c n : Nat) : inm := mCopy (up2 (up2 M 37 1 (((x + 30 - n) % 30 : Nat) : Int)) 37 2 ((c - n : Nat) : Int)) 30 (39 + 7 * ((x + 30 - n) % 30))
set_option maxHeartbeats 4000000 in
set_option maxRecDepth 100000 in
theorem ok_X2_forget {w : Nat} {M : inm} {Q : Nat → rfm → inm → Prop} (hQ : Q 303 (PP w) (mForget M)) : OkV yX2_forget cX2_forget 1 0 0 0 [vR 37] 303 (PP w) M Q := by
  refine OkV.of (by decide +kernel) (by decide +kernel) (Nat.le_of_ble_eq_true rfl) ?_
  refine go_eq (lv' := [(0, vR 37)]) rfl rfl rfl rfl rfl ?_
  refine go_aload_n 0 dX2_forget_0 rfl rfl ?_
  refine go_iconst dX2_forget_1 (by decide) ?_
  refine go_putI dX2_forget_2 (Or.inl lk2_17) kd_37 (by omega) rfl (Or.inl rfl) ?_
  refine go_aload_n 0 dX2_forget_5 rfl rfl ?_
  refine go_iconst dX2_forget_6 (by decide) ?_
  refine go_putI dX2_forget_7 (Or.inl lk2_21) kd_37 (by omega) rfl (Or.inl rfl) ?_
  refine go_ret dX2_forget_10 rfl ⟨rfl, ?_⟩
  exact hQ

set_option maxHeartbeats 4000000 in
set_option maxRecDepth 100000 in
theorem ok_X2_remember {w x c U : Nat} {M : inm} {Q : Nat → rfm → inm → Prop} (hx : M 37 1 = (x : Int)) (h30 : x < 30) (hc : M 37 2 = (c : Int)) (hc30 : c ≤ 30) (hB : Bd M 30 U) (hQ : Q 303 (PP w) (mRem M x c)) : OkV yX2_remember cX2_remember 2 2 0 0 [vR 37, vR 30] 303 (PP w) M Q := by
  refine OkV.of (by decide +kernel) (by decide +kernel) (Nat.le_of_ble_eq_true rfl) ?_
  refine go_eq (lv' := [(0, vR 37), (1, vR 30)]) rfl rfl rfl rfl rfl ?_
  refine go_aload_n 0 dX2_remember_0 rfl rfl ?_
  refine go_getR (r := 38) dX2_remember_1 lk2_11.get kd_37 (by omega) rfl (pp_37_0 w) ?_
  refine go_aload_n 0 dX2_remember_4 rfl rfl ?_
  refine gx_getI (v := ((x : Nat) : Int)) dX2_remember_5 lk2_17.get kd_37 (by omega) rfl hx ?_
  refine gx_aaload (c0 := 2) (r := (39 + 7 * x)) x dX2_remember_8 kd_38 (by decide) (by decide) (by omega) ln_38 rfl (by omega) (PP_bef _ (by omega)) ?_
  refine go_aload_n 1 dX2_remember_9 rfl rfl ?_
  refine go_callVV (av := [vR 30]) (st := []) (a := (39 + 7 * x)) (mc2 := 0) (ms2 := 0) dX2_remember_10 cw2_25 (by decide) rfl rfl (Nat.le_of_ble_eq_true rfl) rfl rfl (On_bef (i := x) (by omega)).k0 ⟨_, _, rfl⟩ (by decide) (On_bef (i := x) (by omega)).l0 (ok_X6_copy (U := U) (M := M) On_30 (On_bef (i := x) (by omega)) (by omega) hB ?_)
  refine go_aload_n 0 dX2_remember_13 rfl rfl ?_
  refine go_aload_n 0 dX2_remember_14 rfl rfl ?_
  refine gx_getI (v := ((x : Nat) : Int)) dX2_remember_15 lk2_17.get kd_37 (by omega) rfl (((mCopy_out (by omega)).trans hx)) ?_
  refine go_iconst dX2_remember_18 (by decide) ?_
  refine gx_iadd (v := ((x + 1 : Nat) : Int)) dX2_remember_19 (by omega) ⟨by omega, by omega⟩ ?_
  refine go_bipush dX2_remember_20 (by decide) (by decide) ?_
  refine gx_irem (v := (((x + 1) % 30 : Nat) : Int)) dX2_remember_22 (by omega) (by omega) (by omega) ?_
  refine go_putI dX2_remember_23 (Or.inl lk2_17) kd_37 (by omega) rfl (Or.inl rfl) ?_
  refine go_aload_n 0 dX2_remember_26 rfl rfl ?_
  refine go_bipush dX2_remember_27 (by decide) (by decide) ?_
  refine go_aload_n 0 dX2_remember_29 rfl rfl ?_
  refine gx_getI (v := ((c : Nat) : Int)) dX2_remember_30 lk2_21.get kd_37 (by omega) rfl ((up2_ne (by omega)).trans (((mCopy_out (by omega)).trans hc))) ?_
  refine go_iconst dX2_remember_33 (by decide) ?_
  refine gx_iadd (v := ((c + 1 : Nat) : Int)) dX2_remember_34 (by omega) ⟨by omega, by omega⟩ ?_
  refine gx_min (v := (min 30 ((c + 1 : Nat) : Int))) dX2_remember_35 mm2_29 (by decide) (Nat.le_of_ble_eq_true rfl) rfl ?_
  refine go_putI dX2_remember_38 (Or.inl lk2_21) kd_37 (by omega) rfl (Or.inl rfl) ?_
  refine go_ret dX2_remember_41 rfl ⟨rfl, ?_⟩
  rw [mRem] at hQ
  rw [show min (30 : Int) ((c + 1 : Nat) : Int) = ((min 30 (c + 1) : Nat) : Int) by omega]
  exact hQ

theorem Bd_up {M : inm} {a U j : Nat} {z : Int} (ha : On a) (h : Bd M a U) : Bd (up2 M 37 j z) a U := by
  have e : ∀ x i, x = a ∨ x = a + 3 ∨ x = a + 4 ∨ x = a + 5 → up2 M 37 j z x i = M x i := fun x i hx => up2_ne (by
    have q : ∀ a ∈ onL, a ≠ 37 ∧ a + 3 ≠ 37 ∧ a + 4 ≠ 37 ∧ a + 5 ≠ 37 := by decide +kernel
    have := q a ha
    omega)
  unfold Bd at h ⊢
  simp only [e _ _ (Or.inl rfl), e _ _ (Or.inr (Or.inl rfl)), e _ _ (Or.inr (Or.inr (Or.inl rfl))), e _ _ (Or.inr (Or.inr (Or.inr rfl)))]
  exact h
set_option maxHeartbeats 4000000 in
set_option maxRecDepth 100000 in
theorem ok_X2_takeBack {w x c n U : Nat} {M : inm} {Q : Nat → rfm → inm → Prop} (hx : M 37 1 = (x : Int)) (h30 : x < 30) (hc : M 37 2 = (c : Int)) (hc30 : c ≤ 30) (hn : 1 ≤ n ∧ n ≤ c) (hB : ∀ i, i < 30 → Bd M (39 + 7 * i) U) (hQ : Q 303 (PP w) (mBack M x c n)) : OkV yX2_takeBack cX2_takeBack 3 2 0 0 [vR 37, vI ((n : Nat) : Int), vR 30] 303 (PP w) M Q := by
  refine OkV.of (by decide +kernel) (by decide +kernel) (Nat.le_of_ble_eq_true rfl) ?_
  refine go_eq (lv' := [(0, vR 37), (1, vI ((n : Nat) : Int)), (2, vR 30)]) rfl rfl rfl rfl rfl ?_
  refine go_iload_n 1 dX2_takeBack_0 rfl rfl ?_
  refine go_iconst dX2_takeBack_1 (by decide) ?_
  refine go_icmp_lt (tgt := 13) dX2_takeBack_2 rfl (fun c1 => ?_) (fun c1 => ?_)
  · exact absurd c1 (by omega)
  · refine go_iload_n 1 dX2_takeBack_5 rfl rfl ?_
    refine go_aload_n 0 dX2_takeBack_6 rfl rfl ?_
    refine gx_getI (v := ((c : Nat) : Int)) dX2_takeBack_7 lk2_21.get kd_37 (by omega) rfl hc ?_
    refine go_icmp_le (tgt := 14) dX2_takeBack_10 rfl (fun c2 => ?_) (fun c2 => ?_)
    · refine go_aload_n 0 dX2_takeBack_14 rfl rfl ?_
      refine go_aload_n 0 dX2_takeBack_15 rfl rfl ?_
      refine gx_getI (v := ((x : Nat) : Int)) dX2_takeBack_16 lk2_17.get kd_37 (by omega) rfl hx ?_
      refine go_bipush dX2_takeBack_19 (by decide) (by decide) ?_
      refine gx_iadd (v := ((x + 30 : Nat) : Int)) dX2_takeBack_21 (by omega) ⟨by omega, by omega⟩ ?_
      refine go_iload_n 1 dX2_takeBack_22 rfl rfl ?_
      refine gx_isub (v := ((x + 30 - n : Nat) : Int)) dX2_takeBack_23 (by omega) ⟨by omega, by omega⟩ ?_
      refine go_bipush dX2_takeBack_24 (by decide) (by decide) ?_
      refine gx_irem (v := (((x + 30 - n) % 30 : Nat) : Int)) dX2_takeBack_26 (by omega) (by omega) (by omega) ?_
      refine go_putI dX2_takeBack_27 (Or.inl lk2_17) kd_37 (by omega) rfl (Or.inl rfl) ?_
      refine go_aload_n 0 dX2_takeBack_30 rfl rfl ?_
      refine go_dup dX2_takeBack_31 rfl ?_
      refine gx_getI (v := ((c : Nat) : Int)) dX2_takeBack_32 lk2_21.get kd_37 (by omega) rfl ((up2_ne (by omega)).trans hc) ?_
      refine go_iload_n 1 dX2_takeBack_35 rfl rfl ?_
      refine gx_isub (v := ((c - n : Nat) : Int)) dX2_takeBack_36 (by omega) ⟨by omega, by omega⟩ ?_
      refine go_putI dX2_takeBack_37 (Or.inl lk2_21) kd_37 (by omega) rfl (Or.inl rfl) ?_
      refine go_aload_n 2 dX2_takeBack_40 rfl rfl ?_
      refine go_aload_n 0 dX2_takeBack_41 rfl rfl ?_
      refine go_getR (r := 38) dX2_takeBack_42 lk2_11.get kd_37 (by omega) rfl (pp_37_0 w) ?_
      refine go_aload_n 0 dX2_takeBack_45 rfl rfl ?_
      refine gx_getI (v := (((x + 30 - n) % 30 : Nat) : Int)) dX2_takeBack_46 lk2_17.get kd_37 (by omega) rfl ((up2_ne (by omega)).trans up2_same) ?_
      refine gx_aaload (c0 := 2) (r := (39 + 7 * ((x + 30 - n) % 30))) ((x + 30 - n) % 30) dX2_takeBack_49 kd_38 (by decide) (by decide) (by omega) ln_38 rfl (by omega) (PP_bef _ (by omega)) ?_
      refine go_callVV (av := [vR (39 + 7 * ((x + 30 - n) % 30))]) (st := []) (a := 30) (mc2 := 0) (ms2 := 0) dX2_takeBack_50 cw2_25 (by decide) rfl rfl (Nat.le_of_ble_eq_true rfl) rfl rfl kd_30 ⟨_, _, rfl⟩ (by decide) (by omega) (ok_X6_copy (U := U) (M := (up2 (up2 M 37 1 (((x + 30 - n) % 30 : Nat) : Int)) 37 2 ((c - n : Nat) : Int))) (On_bef (i := (x + 30 - n) % 30) (by omega)) On_30 (by omega) (Bd_up (On_bef (by omega)) (Bd_up (On_bef (by omega)) (hB ((x + 30 - n) % 30) (by omega)))) ?_)
      refine go_ret dX2_takeBack_53 rfl ⟨rfl, ?_⟩
      exact hQ
    · exact absurd c2 (by omega)

