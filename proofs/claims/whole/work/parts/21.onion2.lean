/-! ===== Onion: what changes it ===== -/
def mCopy (M : inm) (b a : Nat) : inm := (up2 (up2 (up2 (up2 (up2 (cp2 (cp2 (cp2 (cp2 (cp2 (cp2 (up2 M b 0 (M a 0)) (a + 1) 0 (b + 1) 0 12) (a + 2) 0 (b + 2) 0 12) (a + 3) 0 (b + 3) 0 5) (a + 4) 0 (b + 4) 0 5) (a + 5) 0 (b + 5) 0 5) (a + 6) 0 (b + 6) 0 80) b 7 (M a 7)) b 8 (M a 8)) b 9 (M a 9)) b 10 (M a 10)) b 11 (M a 11))
theorem On.apart {a b : Nat} (ha : On a) (hb : On b) (h : a ≠ b) : a + 6 < b ∨ b + 6 < a := by
  have q : ∀ a ∈ onL, ∀ b ∈ onL, a ≠ b → a + 6 < b ∨ b + 6 < a := by decide +kernel
  exact q a ha b hb h
set_option maxHeartbeats 4000000 in
set_option maxRecDepth 100000 in
theorem ok_X6_copy {a b w U : Nat} {M : inm} {Q : Nat → rfm → inm → Prop} (ha : On a) (hb : On b) (hab : a ≠ b) (hB : Bd M a U) (hQ : Q 303 (PP w) (mCopy M b a)) : OkV yX6_copy cX6_copy 2 1 0 0 [vR b, vR a] 303 (PP w) M Q := by
  refine OkV.of (by decide +kernel) (by decide +kernel) (Nat.le_of_ble_eq_true rfl) ?_
  refine go_eq (lv' := [(0, vR b), (1, vR a)]) rfl rfl rfl rfl rfl ?_
  have hap := ha.apart hb hab
  have b9 := hB.2.2.2.2.2.2.1
  have b10 := hB.2.2.2.2.2.2.2.1
  refine go_aload_n 0 dX6_copy_0 rfl rfl ?_
  refine go_aload_n 1 dX6_copy_1 rfl rfl ?_
  refine gx_getI (v := (M a 0)) dX6_copy_2 lk6_9.get ha.k0 ha.l0 rfl rfl ?_
  refine go_putI dX6_copy_5 (Or.inl lk6_9) hb.k0 hb.l0 rfl (Or.inl rfl) ?_
  refine go_aload_n 1 dX6_copy_8 rfl rfl ?_
  refine go_getR (r := (a + 1)) dX6_copy_9 lk6_15.get ha.k0 ha.l0 rfl (ha.p1 _) ?_
  refine go_iconst dX6_copy_12 (by decide) ?_
  refine go_aload_n 0 dX6_copy_13 rfl rfl ?_
  refine go_getR (r := (b + 1)) dX6_copy_14 lk6_15.get hb.k0 hb.l0 rfl (hb.p1 _) ?_
  refine go_iconst dX6_copy_17 (by decide) ?_
  refine go_bipush dX6_copy_18 (by decide) (by decide) ?_
  refine gx_copy 0 0 12 dX6_copy_20 ac6_54 (by decide) ha.k1 hb.k1 ha.l1 hb.l1 rfl ha.n1 hb.n1 (by omega) (by omega) (by omega) (by omega) (by omega) (Nat.le_of_ble_eq_true rfl) ?_
  refine go_aload_n 1 dX6_copy_23 rfl rfl ?_
  refine go_getR (r := (a + 2)) dX6_copy_24 lk6_19.get ha.k0 ha.l0 rfl (ha.p2 _) ?_
  refine go_iconst dX6_copy_27 (by decide) ?_
  refine go_aload_n 0 dX6_copy_28 rfl rfl ?_
  refine go_getR (r := (b + 2)) dX6_copy_29 lk6_19.get hb.k0 hb.l0 rfl (hb.p2 _) ?_
  refine go_iconst dX6_copy_32 (by decide) ?_
  refine go_bipush dX6_copy_33 (by decide) (by decide) ?_
  refine gx_copy 0 0 12 dX6_copy_35 ac6_54 (by decide) ha.k2 hb.k2 ha.l2 hb.l2 rfl ha.n2 hb.n2 (by omega) (by omega) (by omega) (by omega) (by omega) (Nat.le_of_ble_eq_true rfl) ?_
  refine go_aload_n 1 dX6_copy_38 rfl rfl ?_
  refine go_getR (r := (a + 3)) dX6_copy_39 lk6_22.get ha.k0 ha.l0 rfl (ha.p3 _) ?_
  refine go_iconst dX6_copy_42 (by decide) ?_
  refine go_aload_n 0 dX6_copy_43 rfl rfl ?_
  refine go_getR (r := (b + 3)) dX6_copy_44 lk6_22.get hb.k0 hb.l0 rfl (hb.p3 _) ?_
  refine go_iconst dX6_copy_47 (by decide) ?_
  refine go_iconst dX6_copy_48 (by decide) ?_
  refine gx_copy 0 0 5 dX6_copy_49 ac6_54 (by decide) ha.k3 hb.k3 ha.l3 hb.l3 rfl ha.n3 hb.n3 (by omega) (by omega) (by omega) (by omega) (by omega) (Nat.le_of_ble_eq_true rfl) ?_
  refine go_aload_n 1 dX6_copy_52 rfl rfl ?_
  refine go_getR (r := (a + 4)) dX6_copy_53 lk6_25.get ha.k0 ha.l0 rfl (ha.p4 _) ?_
  refine go_iconst dX6_copy_56 (by decide) ?_
  refine go_aload_n 0 dX6_copy_57 rfl rfl ?_
  refine go_getR (r := (b + 4)) dX6_copy_58 lk6_25.get hb.k0 hb.l0 rfl (hb.p4 _) ?_
  refine go_iconst dX6_copy_61 (by decide) ?_
  refine go_iconst dX6_copy_62 (by decide) ?_
  refine gx_copy 0 0 5 dX6_copy_63 ac6_54 (by decide) ha.k4 hb.k4 ha.l4 hb.l4 rfl ha.n4 hb.n4 (by omega) (by omega) (by omega) (by omega) (by omega) (Nat.le_of_ble_eq_true rfl) ?_
  refine go_aload_n 1 dX6_copy_66 rfl rfl ?_
  refine go_getR (r := (a + 5)) dX6_copy_67 lk6_28.get ha.k0 ha.l0 rfl (ha.p5 _) ?_
  refine go_iconst dX6_copy_70 (by decide) ?_
  refine go_aload_n 0 dX6_copy_71 rfl rfl ?_
  refine go_getR (r := (b + 5)) dX6_copy_72 lk6_28.get hb.k0 hb.l0 rfl (hb.p5 _) ?_
  refine go_iconst dX6_copy_75 (by decide) ?_
  refine go_iconst dX6_copy_76 (by decide) ?_
  refine gx_copy 0 0 5 dX6_copy_77 ac6_54 (by decide) ha.k5 hb.k5 ha.l5 hb.l5 rfl ha.n5 hb.n5 (by omega) (by omega) (by omega) (by omega) (by omega) (Nat.le_of_ble_eq_true rfl) ?_
  refine go_aload_n 1 dX6_copy_80 rfl rfl ?_
  refine go_getR (r := (a + 6)) dX6_copy_81 lk6_31.get ha.k0 ha.l0 rfl (ha.p6 _) ?_
  refine go_iconst dX6_copy_84 (by decide) ?_
  refine go_aload_n 0 dX6_copy_85 rfl rfl ?_
  refine go_getR (r := (b + 6)) dX6_copy_86 lk6_31.get hb.k0 hb.l0 rfl (hb.p6 _) ?_
  refine go_iconst dX6_copy_89 (by decide) ?_
  refine go_bipush dX6_copy_90 (by decide) (by decide) ?_
  refine gx_copy 0 0 80 dX6_copy_92 ac6_54 (by decide) ha.k6 hb.k6 ha.l6 hb.l6 rfl ha.n6 hb.n6 (by omega) (by omega) (by omega) (by omega) (by omega) (Nat.le_of_ble_eq_true rfl) ?_
  refine go_aload_n 0 dX6_copy_95 rfl rfl ?_
  refine go_aload_n 1 dX6_copy_96 rfl rfl ?_
  refine gx_getI (v := (M a 7)) dX6_copy_97 lk6_34.get ha.k0 ha.l0 rfl ((cp2_ne (by omega)).trans ((cp2_ne (by omega)).trans ((cp2_ne (by omega)).trans ((cp2_ne (by omega)).trans ((cp2_ne (by omega)).trans ((cp2_ne (by omega)).trans (up2_ne (by omega)))))))) ?_
  refine go_putI dX6_copy_100 (Or.inl lk6_34) hb.k0 hb.l0 rfl (Or.inl rfl) ?_
  refine go_aload_n 0 dX6_copy_103 rfl rfl ?_
  refine go_aload_n 1 dX6_copy_104 rfl rfl ?_
  refine gx_getI (v := (M a 8)) dX6_copy_105 lk6_37.get ha.k0 ha.l0 rfl ((up2_ne (by omega)).trans ((cp2_ne (by omega)).trans ((cp2_ne (by omega)).trans ((cp2_ne (by omega)).trans ((cp2_ne (by omega)).trans ((cp2_ne (by omega)).trans ((cp2_ne (by omega)).trans (up2_ne (by omega))))))))) ?_
  refine go_putI dX6_copy_108 (Or.inl lk6_37) hb.k0 hb.l0 rfl (Or.inl rfl) ?_
  refine go_aload_n 0 dX6_copy_111 rfl rfl ?_
  refine go_aload_n 1 dX6_copy_112 rfl rfl ?_
  refine gx_getI (v := (M a 9)) dX6_copy_113 lk6_40.get ha.k0 ha.l0 rfl ((up2_ne (by omega)).trans ((up2_ne (by omega)).trans ((cp2_ne (by omega)).trans ((cp2_ne (by omega)).trans ((cp2_ne (by omega)).trans ((cp2_ne (by omega)).trans ((cp2_ne (by omega)).trans ((cp2_ne (by omega)).trans (up2_ne (by omega)))))))))) ?_
  refine go_putZ dX6_copy_116 (Or.inl lk6_40) hb.k0 hb.l0 rfl (Or.inl rfl) (by omega) ?_
  refine go_aload_n 0 dX6_copy_119 rfl rfl ?_
  refine go_aload_n 1 dX6_copy_120 rfl rfl ?_
  refine gx_getI (v := (M a 10)) dX6_copy_121 lk6_44.get ha.k0 ha.l0 rfl ((up2_ne (by omega)).trans ((up2_ne (by omega)).trans ((up2_ne (by omega)).trans ((cp2_ne (by omega)).trans ((cp2_ne (by omega)).trans ((cp2_ne (by omega)).trans ((cp2_ne (by omega)).trans ((cp2_ne (by omega)).trans ((cp2_ne (by omega)).trans (up2_ne (by omega))))))))))) ?_
  refine go_putZ dX6_copy_124 (Or.inl lk6_44) hb.k0 hb.l0 rfl (Or.inl rfl) (by omega) ?_
  refine go_aload_n 0 dX6_copy_127 rfl rfl ?_
  refine go_aload_n 1 dX6_copy_128 rfl rfl ?_
  refine gx_getI (v := (M a 11)) dX6_copy_129 lk6_47.get ha.k0 ha.l0 rfl ((up2_ne (by omega)).trans ((up2_ne (by omega)).trans ((up2_ne (by omega)).trans ((up2_ne (by omega)).trans ((cp2_ne (by omega)).trans ((cp2_ne (by omega)).trans ((cp2_ne (by omega)).trans ((cp2_ne (by omega)).trans ((cp2_ne (by omega)).trans ((cp2_ne (by omega)).trans (up2_ne (by omega)))))))))))) ?_
  refine go_putI dX6_copy_132 (Or.inl lk6_47) hb.k0 hb.l0 rfl (Or.inl rfl) ?_
  refine go_ret dX6_copy_135 rfl ⟨rfl, ?_⟩
  exact hQ

def mEnter (M : inm) (a e : Nat) : inm := up2 (up2 (up2 (up2 (up2 (cp2 M (a + 6) 0 (a + 6) 4 76) (a + 6) 0 (M a 8)) (a + 6) 1 (e : Int)) (a + 6) 2 (M (a + 1) 0)) (a + 6) 3 (M (a + 2) 0)) a 7 (min 20 (M a 7 + 1))
set_option maxHeartbeats 4000000 in
set_option maxRecDepth 100000 in
theorem ok_X6_enter {a w e : Nat} {M : inm} {Q : Nat → rfm → inm → Prop} (ha : On a) (h7 : 0 ≤ M a 7 ∧ M a 7 ≤ 20) (hQ : Q 303 (PP w) (mEnter M a e)) : OkV yX6_enter cX6_enter 2 1 0 0 [vR a, vI ((e : Nat) : Int)] 303 (PP w) M Q := by
  refine OkV.of (by decide +kernel) (by decide +kernel) (Nat.le_of_ble_eq_true rfl) ?_
  refine go_eq (lv' := [(0, vR a), (1, vI ((e : Nat) : Int))]) rfl rfl rfl rfl rfl ?_
  refine go_aload_n 0 dX6_enter_0 rfl rfl ?_
  refine go_getR (r := (a + 6)) dX6_enter_1 lk6_31.get ha.k0 ha.l0 rfl (ha.p6 _) ?_
  refine go_iconst dX6_enter_4 (by decide) ?_
  refine go_aload_n 0 dX6_enter_5 rfl rfl ?_
  refine go_getR (r := (a + 6)) dX6_enter_6 lk6_31.get ha.k0 ha.l0 rfl (ha.p6 _) ?_
  refine go_iconst dX6_enter_9 (by decide) ?_
  refine go_bipush dX6_enter_10 (by decide) (by decide) ?_
  refine gx_copy 0 4 76 dX6_enter_12 ac6_54 (by decide) ha.k6 ha.k6 ha.l6 ha.l6 rfl ha.n6 ha.n6 (by omega) (by omega) (by omega) (by omega) (by omega) (Nat.le_of_ble_eq_true rfl) ?_
  refine go_aload_n 0 dX6_enter_15 rfl rfl ?_
  refine go_getR (r := (a + 6)) dX6_enter_16 lk6_31.get ha.k0 ha.l0 rfl (ha.p6 _) ?_
  refine go_iconst dX6_enter_19 (by decide) ?_
  refine go_aload_n 0 dX6_enter_20 rfl rfl ?_
  refine gx_getI (v := (M a 8)) dX6_enter_21 lk6_37.get ha.k0 ha.l0 rfl (cp2_ne (by omega)) ?_
  refine gx_iastore 0 dX6_enter_24 ha.k6 ha.l6 ha.n6 (by omega) (by omega) ?_
  refine go_aload_n 0 dX6_enter_25 rfl rfl ?_
  refine go_getR (r := (a + 6)) dX6_enter_26 lk6_31.get ha.k0 ha.l0 rfl (ha.p6 _) ?_
  refine go_iconst dX6_enter_29 (by decide) ?_
  refine go_iload_n 1 dX6_enter_30 rfl rfl ?_
  refine gx_iastore 1 dX6_enter_31 ha.k6 ha.l6 ha.n6 (by omega) (by omega) ?_
  refine go_aload_n 0 dX6_enter_32 rfl rfl ?_
  refine go_getR (r := (a + 6)) dX6_enter_33 lk6_31.get ha.k0 ha.l0 rfl (ha.p6 _) ?_
  refine go_iconst dX6_enter_36 (by decide) ?_
  refine go_aload_n 0 dX6_enter_37 rfl rfl ?_
  refine go_getR (r := (a + 1)) dX6_enter_38 lk6_15.get ha.k0 ha.l0 rfl (ha.p1 _) ?_
  refine go_iconst dX6_enter_41 (by decide) ?_
  refine gx_iaload (v := (M (a + 1) 0)) 0 dX6_enter_42 ha.k1 ha.l1 ha.n1 (by omega) (by omega) ((up2_ne (by omega)).trans ((up2_ne (by omega)).trans (cp2_ne (by omega)))) ?_
  refine gx_iastore 2 dX6_enter_43 ha.k6 ha.l6 ha.n6 (by omega) (by omega) ?_
  refine go_aload_n 0 dX6_enter_44 rfl rfl ?_
  refine go_getR (r := (a + 6)) dX6_enter_45 lk6_31.get ha.k0 ha.l0 rfl (ha.p6 _) ?_
  refine go_iconst dX6_enter_48 (by decide) ?_
  refine go_aload_n 0 dX6_enter_49 rfl rfl ?_
  refine go_getR (r := (a + 2)) dX6_enter_50 lk6_19.get ha.k0 ha.l0 rfl (ha.p2 _) ?_
  refine go_iconst dX6_enter_53 (by decide) ?_
  refine gx_iaload (v := (M (a + 2) 0)) 0 dX6_enter_54 ha.k2 ha.l2 ha.n2 (by omega) (by omega) ((up2_ne (by omega)).trans ((up2_ne (by omega)).trans ((up2_ne (by omega)).trans (cp2_ne (by omega))))) ?_
  refine gx_iastore 3 dX6_enter_55 ha.k6 ha.l6 ha.n6 (by omega) (by omega) ?_
  refine go_aload_n 0 dX6_enter_56 rfl rfl ?_
  refine go_bipush dX6_enter_57 (by decide) (by decide) ?_
  refine go_aload_n 0 dX6_enter_59 rfl rfl ?_
  refine gx_getI (v := (M a 7)) dX6_enter_60 lk6_34.get ha.k0 ha.l0 rfl ((up2_ne (by omega)).trans ((up2_ne (by omega)).trans ((up2_ne (by omega)).trans ((up2_ne (by omega)).trans (cp2_ne (by omega)))))) ?_
  refine go_iconst dX6_enter_63 (by decide) ?_
  refine gx_iadd (v := ((M a 7) + 1)) dX6_enter_64 rfl ⟨by omega, by omega⟩ ?_
  refine gx_min (v := (min 20 ((M a 7) + 1))) dX6_enter_65 mm6_72 (by decide) (Nat.le_of_ble_eq_true rfl) rfl ?_
  refine go_putI dX6_enter_68 (Or.inl lk6_34) ha.k0 ha.l0 rfl (Or.inl rfl) ?_
  refine go_ret dX6_enter_71 rfl ⟨rfl, ?_⟩
  exact hQ

def mThick (M : inm) (a : Nat) : inm := if M (a + 2) 0 < 20 then up2 M (a + 2) 0 (M (a + 2) 0 + 1) else if M a 0 < 12 then up2 (up2 (up2 (cp2 (cp2 M (a + 1) 0 (a + 1) 1 11) (a + 2) 0 (a + 2) 1 11) (a + 1) 0 2) (a + 2) 0 1) a 0 (M a 0 + 1) else M
set_option maxHeartbeats 4000000 in
set_option maxRecDepth 100000 in
theorem ok_X6_thicken {a w : Nat} {M : inm} {Q : Nat → rfm → inm → Prop} (ha : On a) (h0 : 1 ≤ M a 0 ∧ M a 0 ≤ 12) (h2 : 0 ≤ M (a + 2) 0) (hQ : Q 303 (PP w) (mThick M a)) : OkV yX6_thicken cX6_thicken 1 1 0 0 [vR a] 303 (PP w) M Q := by
  refine OkV.of (by decide +kernel) (by decide +kernel) (Nat.le_of_ble_eq_true rfl) ?_
  refine go_eq (lv' := [(0, vR a)]) rfl rfl rfl rfl rfl ?_
  refine go_aload_n 0 dX6_thicken_0 rfl rfl ?_
  refine gx_getI (v := (M a 0)) dX6_thicken_1 lk6_9.get ha.k0 ha.l0 rfl rfl ?_
  refine go_iconst dX6_thicken_4 (by decide) ?_
  refine go_icmp_ge (tgt := 9) dX6_thicken_5 rfl (fun c1 => ?_) (fun c1 => ?_)
  · refine go_aload_n 0 dX6_thicken_9 rfl rfl ?_
    refine go_getR (r := (a + 2)) dX6_thicken_10 lk6_19.get ha.k0 ha.l0 rfl (ha.p2 _) ?_
    refine go_iconst dX6_thicken_13 (by decide) ?_
    refine gx_iaload (v := (M (a + 2) 0)) 0 dX6_thicken_14 ha.k2 ha.l2 ha.n2 (by omega) (by omega) rfl ?_
    refine go_bipush dX6_thicken_15 (by decide) (by decide) ?_
    refine go_icmp_ge (tgt := 33) dX6_thicken_17 rfl (fun c2 => ?_) (fun c2 => ?_)
    · refine go_aload_n 0 dX6_thicken_33 rfl rfl ?_
      refine gx_getI (v := (M a 0)) dX6_thicken_34 lk6_9.get ha.k0 ha.l0 rfl rfl ?_
      refine go_bipush dX6_thicken_37 (by decide) (by decide) ?_
      refine go_icmp_ge (tgt := 96) dX6_thicken_39 rfl (fun c3 => ?_) (fun c3 => ?_)
      · refine go_ret dX6_thicken_96 rfl ⟨rfl, ?_⟩
        rw [mThick] at hQ
        first | (rw [if_pos (by omega)] at hQ; exact hQ) | (rw [if_neg (by omega), if_pos (by omega)] at hQ; exact hQ) | (rw [if_neg (by omega), if_neg (by omega)] at hQ; exact hQ)
      · refine go_aload_n 0 dX6_thicken_42 rfl rfl ?_
        refine go_getR (r := (a + 1)) dX6_thicken_43 lk6_15.get ha.k0 ha.l0 rfl (ha.p1 _) ?_
        refine go_iconst dX6_thicken_46 (by decide) ?_
        refine go_aload_n 0 dX6_thicken_47 rfl rfl ?_
        refine go_getR (r := (a + 1)) dX6_thicken_48 lk6_15.get ha.k0 ha.l0 rfl (ha.p1 _) ?_
        refine go_iconst dX6_thicken_51 (by decide) ?_
        refine go_bipush dX6_thicken_52 (by decide) (by decide) ?_
        refine gx_copy 0 1 11 dX6_thicken_54 ac6_54 (by decide) ha.k1 ha.k1 ha.l1 ha.l1 rfl ha.n1 ha.n1 (by omega) (by omega) (by omega) (by omega) (by omega) (Nat.le_of_ble_eq_true rfl) ?_
        refine go_aload_n 0 dX6_thicken_57 rfl rfl ?_
        refine go_getR (r := (a + 2)) dX6_thicken_58 lk6_19.get ha.k0 ha.l0 rfl (ha.p2 _) ?_
        refine go_iconst dX6_thicken_61 (by decide) ?_
        refine go_aload_n 0 dX6_thicken_62 rfl rfl ?_
        refine go_getR (r := (a + 2)) dX6_thicken_63 lk6_19.get ha.k0 ha.l0 rfl (ha.p2 _) ?_
        refine go_iconst dX6_thicken_66 (by decide) ?_
        refine go_bipush dX6_thicken_67 (by decide) (by decide) ?_
        refine gx_copy 0 1 11 dX6_thicken_69 ac6_54 (by decide) ha.k2 ha.k2 ha.l2 ha.l2 rfl ha.n2 ha.n2 (by omega) (by omega) (by omega) (by omega) (by omega) (Nat.le_of_ble_eq_true rfl) ?_
        refine go_aload_n 0 dX6_thicken_72 rfl rfl ?_
        refine go_getR (r := (a + 1)) dX6_thicken_73 lk6_15.get ha.k0 ha.l0 rfl (ha.p1 _) ?_
        refine go_iconst dX6_thicken_76 (by decide) ?_
        refine go_iconst dX6_thicken_77 (by decide) ?_
        refine gx_iastore 0 dX6_thicken_78 ha.k1 ha.l1 ha.n1 (by omega) (by omega) ?_
        refine go_aload_n 0 dX6_thicken_79 rfl rfl ?_
        refine go_getR (r := (a + 2)) dX6_thicken_80 lk6_19.get ha.k0 ha.l0 rfl (ha.p2 _) ?_
        refine go_iconst dX6_thicken_83 (by decide) ?_
        refine go_iconst dX6_thicken_84 (by decide) ?_
        refine gx_iastore 0 dX6_thicken_85 ha.k2 ha.l2 ha.n2 (by omega) (by omega) ?_
        refine go_aload_n 0 dX6_thicken_86 rfl rfl ?_
        refine go_dup dX6_thicken_87 rfl ?_
        refine gx_getI (v := (M a 0)) dX6_thicken_88 lk6_9.get ha.k0 ha.l0 rfl ((up2_ne (by omega)).trans ((up2_ne (by omega)).trans ((cp2_ne (by omega)).trans (cp2_ne (by omega))))) ?_
        refine go_iconst dX6_thicken_91 (by decide) ?_
        refine gx_iadd (v := ((M a 0) + 1)) dX6_thicken_92 rfl ⟨by omega, by omega⟩ ?_
        refine go_putI dX6_thicken_93 (Or.inl lk6_9) ha.k0 ha.l0 rfl (Or.inl rfl) ?_
        refine go_ret dX6_thicken_96 rfl ⟨rfl, ?_⟩
        rw [mThick] at hQ
        first | (rw [if_pos (by omega)] at hQ; exact hQ) | (rw [if_neg (by omega), if_pos (by omega)] at hQ; exact hQ) | (rw [if_neg (by omega), if_neg (by omega)] at hQ; exact hQ)
    · refine go_aload_n 0 dX6_thicken_20 rfl rfl ?_
      refine go_getR (r := (a + 2)) dX6_thicken_21 lk6_19.get ha.k0 ha.l0 rfl (ha.p2 _) ?_
      refine go_iconst dX6_thicken_24 (by decide) ?_
      refine go_dup2 dX6_thicken_25 rfl rfl ?_
      refine gx_iaload (v := (M (a + 2) 0)) 0 dX6_thicken_26 ha.k2 ha.l2 ha.n2 (by omega) (by omega) rfl ?_
      refine go_iconst dX6_thicken_27 (by decide) ?_
      refine gx_iadd (v := ((M (a + 2) 0) + 1)) dX6_thicken_28 rfl ⟨by omega, by omega⟩ ?_
      refine gx_iastore 0 dX6_thicken_29 ha.k2 ha.l2 ha.n2 (by omega) (by omega) ?_
      refine go_goto (tgt := 96) dX6_thicken_30 rfl ?_
      refine go_ret dX6_thicken_96 rfl ⟨rfl, ?_⟩
      rw [mThick] at hQ
      first | (rw [if_pos (by omega)] at hQ; exact hQ) | (rw [if_neg (by omega), if_pos (by omega)] at hQ; exact hQ) | (rw [if_neg (by omega), if_neg (by omega)] at hQ; exact hQ)
  · exact absurd c1 (by omega)

def mYear (M : inm) (a v L E : Nat) : inm := up2 (ov (ov M (a + 2) L (fun j => if M (a + 1) j = 3 then min 20 (M (a + 2) j + 1) else M (a + 2) j)) (a + 4) E (fun e => max 0 (M (a + 4) e - M (v + 4) e))) a 8 (M a 8 + 1)
theorem On.apartC {a v : Nat} (ha : On a) (hv : Cs v) : v + 12 < a := by
  have q : ∀ a ∈ onL, 29 < a := by decide +kernel
  have := q a ha
  rcases hv with rfl | rfl <;> omega
theorem ov_same {M : inm} {A k : Nat} {f : Nat → Int} (h : M A k = f k) : ov M A k f = ov M A (k + 1) f := by
  rw [← ov_s (z := M A k) h]
  funext x j
  unfold up2 ov
  by_cases h1 : x = A ∧ j = k
  · obtain ⟨rfl, rfl⟩ := h1
    rw [if_neg (by omega), if_pos ⟨rfl, rfl⟩]
  · rw [if_neg h1]
set_option maxHeartbeats 4000000 in
set_option maxRecDepth 100000 in
theorem lp_X6_passYear_47 {a w v L E : Nat} {M : inm} {Q : Nat → rfm → inm → Prop} (ha : On a) (hv : Cs v) (hL : Lay M a L) (hE : M v 3 = (E : Int) ∧ E ≤ 5) (hT : ∀ e, e < E → 0 ≤ M (a + 4) e ∧ M (a + 4) e ≤ 9999) (hq : ∀ e, e < E → 1 ≤ M (v + 4) e ∧ M (v + 4) e ≤ 9) (h8 : 0 ≤ M a 8 ∧ M a 8 ≤ 1000000) (hQ : Q 303 (PP w) (mYear M a v L E)) : ∀ (d k : Nat), E < k + d → k ≤ E → Go S0 yX6_passYear cX6_passYear 3 1 0 0 none 47 [(2, vI ((k : Nat) : Int)), (0, vR a), (1, vR v)] [] 303 (PP w) (ov (ov M (a + 2) L (fun j => if M (a + 1) j = 3 then min 20 (M (a + 2) j + 1) else M (a + 2) j)) (a + 4) k (fun e => max 0 (M (a + 4) e - M (v + 4) e))) (fun v n P M => v = none ∧ Q n P M) := by
  have hav := ha.apartC hv
  have hL12 := hL.2.1
  have hE5 := hE.2
  intro d
  induction d with
  | zero => intro k h1 h2; exfalso; omega
  | succ d ih =>
    intro k h1 h2
    refine go_iload_n 0 dX6_passYear_47 rfl rfl ?_
    refine go_aload_n 2 dX6_passYear_48 rfl rfl ?_
    refine gx_getI (v := ((E : Nat) : Int)) dX6_passYear_49 lk6_85.get hv.k0 hv.l0 rfl ((ov_out (by omega)).trans ((ov_out (by omega)).trans hE.1)) ?_
    refine go_icmp_ge (tgt := 84) dX6_passYear_52 rfl (fun c1 => ?_) (fun c1 => ?_)
    · refine go_aload_n 1 dX6_passYear_84 rfl rfl ?_
      refine go_dup dX6_passYear_85 rfl ?_
      refine gx_getI (v := (M a 8)) dX6_passYear_86 lk6_37.get ha.k0 ha.l0 rfl ((ov_out (by omega)).trans (ov_out (by omega))) ?_
      refine go_iconst dX6_passYear_89 (by decide) ?_
      refine gx_iadd (v := ((M a 8) + 1)) dX6_passYear_90 rfl ⟨by omega, by omega⟩ ?_
      refine go_putI dX6_passYear_91 (Or.inl lk6_37) ha.k0 ha.l0 rfl (Or.inl rfl) ?_
      refine go_ret dX6_passYear_94 rfl ⟨rfl, ?_⟩
      rw [show k = E by omega]
      exact hQ
    · refine go_aload_n 1 dX6_passYear_55 rfl rfl ?_
      refine go_getR (r := (a + 4)) dX6_passYear_56 lk6_25.get ha.k0 ha.l0 rfl (ha.p4 _) ?_
      refine go_iload_n 0 dX6_passYear_59 rfl rfl ?_
      refine go_iconst dX6_passYear_60 (by decide) ?_
      refine go_aload_n 1 dX6_passYear_61 rfl rfl ?_
      refine go_getR (r := (a + 4)) dX6_passYear_62 lk6_25.get ha.k0 ha.l0 rfl (ha.p4 _) ?_
      refine go_iload_n 0 dX6_passYear_65 rfl rfl ?_
      have f2 := hT k (by omega)
      refine gx_iaload (v := (M (a + 4) k)) k dX6_passYear_66 ha.k4 ha.l4 ha.n4 rfl (by omega) ((ov_out (by omega)).trans (ov_out (by omega))) ?_
      refine go_aload_n 2 dX6_passYear_67 rfl rfl ?_
      refine go_getR (r := (v + 4)) dX6_passYear_68 lk6_88 hv.k0 hv.l0 rfl (hv.p8 _) ?_
      refine go_iload_n 0 dX6_passYear_71 rfl rfl ?_
      have f3 := hq k (by omega)
      refine gx_iaload (v := (M (v + 4) k)) k dX6_passYear_72 hv.k4 (hv.l (by omega)) hv.n4 rfl (by omega) ((ov_out (by omega)).trans (ov_out (by omega))) ?_
      refine gx_isub (v := ((M (a + 4) k) - (M (v + 4) k))) dX6_passYear_73 rfl ⟨by omega, by omega⟩ ?_
      refine gx_max (v := (max 0 ((M (a + 4) k) - (M (v + 4) k)))) dX6_passYear_74 mm6_91 (by decide) (Nat.le_of_ble_eq_true rfl) rfl ?_
      refine gx_iastore k dX6_passYear_77 ha.k4 ha.l4 ha.n4 rfl (by omega) ?_
      refine gx_iinc (v := ((k + 1 : Nat) : Int)) (lv' := [(2, vI ((k + 1 : Nat) : Int)), (0, vR a), (1, vR v)]) 0 dX6_passYear_78 rfl (by omega) ⟨by omega, by omega⟩ (by decide) rfl ?_
      refine go_goto (tgt := 47) dX6_passYear_81 rfl ?_
      have e4 : (up2 (ov (ov M (a + 2) L (fun j => if M (a + 1) j = 3 then min 20 (M (a + 2) j + 1) else M (a + 2) j)) (a + 4) k (fun e => max 0 (M (a + 4) e - M (v + 4) e))) (a + 4) k (max 0 ((M (a + 4) k) - (M (v + 4) k)))) = (ov (ov M (a + 2) L (fun j => if M (a + 1) j = 3 then min 20 (M (a + 2) j + 1) else M (a + 2) j)) (a + 4) (k + 1) (fun e => max 0 (M (a + 4) e - M (v + 4) e))) := by exact ov_s (by rfl)
      rw [e4]
      exact ih (k + 1) (by omega) (by omega)

set_option maxHeartbeats 4000000 in
set_option maxRecDepth 100000 in
theorem lp_X6_passYear_2 {a w v L E : Nat} {M : inm} {Q : Nat → rfm → inm → Prop} (ha : On a) (hv : Cs v) (hL : Lay M a L) (hE : M v 3 = (E : Int) ∧ E ≤ 5) (hT : ∀ e, e < E → 0 ≤ M (a + 4) e ∧ M (a + 4) e ≤ 9999) (hq : ∀ e, e < E → 1 ≤ M (v + 4) e ∧ M (v + 4) e ≤ 9) (h8 : 0 ≤ M a 8 ∧ M a 8 ≤ 1000000) (hQ : Q 303 (PP w) (mYear M a v L E)) : ∀ (d k : Nat), L < k + d → k ≤ L → Go S0 yX6_passYear cX6_passYear 3 1 0 0 none 2 [(2, vI ((k : Nat) : Int)), (0, vR a), (1, vR v)] [] 303 (PP w) (ov M (a + 2) k (fun j => if M (a + 1) j = 3 then min 20 (M (a + 2) j + 1) else M (a + 2) j)) (fun v n P M => v = none ∧ Q n P M) := by
  have hav := ha.apartC hv
  have hL12 := hL.2.1
  have hE5 := hE.2
  intro d
  induction d with
  | zero => intro k h1 h2; exfalso; omega
  | succ d ih =>
    intro k h1 h2
    refine go_iload_n 0 dX6_passYear_2 rfl rfl ?_
    refine go_aload_n 1 dX6_passYear_3 rfl rfl ?_
    refine gx_getI (v := ((L : Nat) : Int)) dX6_passYear_4 lk6_9.get ha.k0 ha.l0 rfl ((ov_out (by omega)).trans hL.1) ?_
    refine go_icmp_ge (tgt := 45) dX6_passYear_7 rfl (fun c1 => ?_) (fun c1 => ?_)
    · refine go_iconst dX6_passYear_45 (by decide) ?_
      refine go_istore_n (lv' := [(2, vI 0), (0, vR a), (1, vR v)]) dX6_passYear_46 rfl (by decide) rfl ?_
      refine go_eq (lv' := [(2, vI ((0 : Nat) : Int)), (0, vR a), (1, vR v)]) rfl rfl rfl rfl (M' := (ov (ov M (a + 2) L (fun j => if M (a + 1) j = 3 then min 20 (M (a + 2) j + 1) else M (a + 2) j)) (a + 4) 0 (fun e => max 0 (M (a + 4) e - M (v + 4) e)))) (by rw [show k = L by omega, ov_0 (A := a + 4)]) ?_
      exact lp_X6_passYear_47 ha hv hL hE hT hq h8 hQ (E + 1) 0 (by omega) (by omega)
    · refine go_aload_n 1 dX6_passYear_10 rfl rfl ?_
      refine go_getR (r := (a + 1)) dX6_passYear_11 lk6_15.get ha.k0 ha.l0 rfl (ha.p1 _) ?_
      refine go_iload_n 0 dX6_passYear_14 rfl rfl ?_
      have f2 := hL.2.2.2 k (by omega)
      refine gx_iaload (v := (M (a + 1) k)) k dX6_passYear_15 ha.k1 ha.l1 ha.n1 rfl (by omega) (ov_out (by omega)) ?_
      refine go_iconst dX6_passYear_16 (by decide) ?_
      refine go_icmp_ne (tgt := 39) dX6_passYear_17 rfl (fun c3 => ?_) (fun c3 => ?_)
      · refine gx_iinc (v := ((k + 1 : Nat) : Int)) (lv' := [(2, vI ((k + 1 : Nat) : Int)), (0, vR a), (1, vR v)]) 0 dX6_passYear_39 rfl (by omega) ⟨by omega, by omega⟩ (by decide) rfl ?_
        refine go_goto (tgt := 2) dX6_passYear_42 rfl ?_
        have e4 : (ov M (a + 2) k (fun j => if M (a + 1) j = 3 then min 20 (M (a + 2) j + 1) else M (a + 2) j)) = (ov M (a + 2) (k + 1) (fun j => if M (a + 1) j = 3 then min 20 (M (a + 2) j + 1) else M (a + 2) j)) := by exact ov_same (by rw [if_neg (by omega)])
        rw [e4]
        exact ih (k + 1) (by omega) (by omega)
      · refine go_aload_n 1 dX6_passYear_20 rfl rfl ?_
        refine go_getR (r := (a + 2)) dX6_passYear_21 lk6_19.get ha.k0 ha.l0 rfl (ha.p2 _) ?_
        refine go_iload_n 0 dX6_passYear_24 rfl rfl ?_
        refine go_bipush dX6_passYear_25 (by decide) (by decide) ?_
        refine go_aload_n 1 dX6_passYear_27 rfl rfl ?_
        refine go_getR (r := (a + 2)) dX6_passYear_28 lk6_19.get ha.k0 ha.l0 rfl (ha.p2 _) ?_
        refine go_iload_n 0 dX6_passYear_31 rfl rfl ?_
        have f5 := hL.2.2.1 k (by omega)
        refine gx_iaload (v := (M (a + 2) k)) k dX6_passYear_32 ha.k2 ha.l2 ha.n2 rfl (by omega) (ov_out (by omega)) ?_
        refine go_iconst dX6_passYear_33 (by decide) ?_
        refine gx_iadd (v := ((M (a + 2) k) + 1)) dX6_passYear_34 rfl ⟨by omega, by omega⟩ ?_
        refine gx_min (v := (min 20 ((M (a + 2) k) + 1))) dX6_passYear_35 mm6_72 (by decide) (Nat.le_of_ble_eq_true rfl) rfl ?_
        refine gx_iastore k dX6_passYear_38 ha.k2 ha.l2 ha.n2 rfl (by omega) ?_
        refine gx_iinc (v := ((k + 1 : Nat) : Int)) (lv' := [(2, vI ((k + 1 : Nat) : Int)), (0, vR a), (1, vR v)]) 0 dX6_passYear_39 rfl (by omega) ⟨by omega, by omega⟩ (by decide) rfl ?_
        refine go_goto (tgt := 2) dX6_passYear_42 rfl ?_
        have e6 : (up2 (ov M (a + 2) k (fun j => if M (a + 1) j = 3 then min 20 (M (a + 2) j + 1) else M (a + 2) j)) (a + 2) k (min 20 ((M (a + 2) k) + 1))) = (ov M (a + 2) (k + 1) (fun j => if M (a + 1) j = 3 then min 20 (M (a + 2) j + 1) else M (a + 2) j)) := by exact ov_s (by rw [if_pos (by omega)])
        rw [e6]
        exact ih (k + 1) (by omega) (by omega)

set_option maxHeartbeats 4000000 in
set_option maxRecDepth 100000 in
theorem ok_X6_passYear {a w v L E : Nat} {M : inm} {Q : Nat → rfm → inm → Prop} (ha : On a) (hv : Cs v) (hL : Lay M a L) (hE : M v 3 = (E : Int) ∧ E ≤ 5) (hT : ∀ e, e < E → 0 ≤ M (a + 4) e ∧ M (a + 4) e ≤ 9999) (hq : ∀ e, e < E → 1 ≤ M (v + 4) e ∧ M (v + 4) e ≤ 9) (h8 : 0 ≤ M a 8 ∧ M a 8 ≤ 1000000) (hQ : Q 303 (PP w) (mYear M a v L E)) : OkV yX6_passYear cX6_passYear 3 1 0 0 [vR a, vR v] 303 (PP w) M Q := by
  refine OkV.of (by decide +kernel) (by decide +kernel) (Nat.le_of_ble_eq_true rfl) ?_
  refine go_eq (lv' := [(0, vR a), (1, vR v)]) rfl rfl rfl rfl rfl ?_
  have hav := ha.apartC hv
  have hL12 := hL.2.1
  have hE5 := hE.2
  refine go_iconst dX6_passYear_0 (by decide) ?_
  refine go_istore_n (lv' := [(2, vI 0), (0, vR a), (1, vR v)]) dX6_passYear_1 rfl (by decide) rfl ?_
  refine go_m (M' := (ov M (a + 2) 0 (fun j => if M (a + 1) j = 3 then min 20 (M (a + 2) j + 1) else M (a + 2) j))) (by rw [ov_0]) ?_
  exact lp_X6_passYear_2 ha hv hL hE hT hq h8 hQ (L + 1) 0 (by omega) (by omega)

def mBegin (M : inm) (a v : Nat) : inm := up2 (up2 (up2 (up2 (up2 (ov (ov (ov (cp2 (cp2 (up2 M a 0 (M v 2)) (v + 1) 0 (a + 1) 0 12) (v + 2) 0 (a + 2) 0 12) (a + 3) 5 (fun _ => 0)) (a + 4) 5 (fun _ => 0)) (a + 5) 5 (fun _ => 0)) a 7 0) a 8 0) a 9 0) a 10 (if ¬ M v 0 = 0 ∧ M v 2 = 0 then 1 else 0)) a 11 (-1)
theorem ov_up {M : inm} {A N x j : Nat} {f : Nat → Int} {z : Int} (h : x ≠ A) : up2 (ov M A N f) x j z = ov (up2 M x j z) A N f := by
  funext p q
  simp only [up2, ov]
  by_cases h1 : p = x ∧ q = j
  · rw [if_pos h1, if_neg (by omega), if_pos h1]
  · rw [if_neg h1, if_neg h1]
set_option maxHeartbeats 4000000 in
set_option maxRecDepth 100000 in
theorem lp_X6_begin {a w v : Nat} {M : inm} {Q : Nat → rfm → inm → Prop} (ha : On a) (hv : Cs v) (hQ : Q 303 (PP w) (mBegin M a v)) : ∀ (d k : Nat), 5 < k + d → k ≤ 5 → Go S0 yX6_begin cX6_begin 3 1 0 0 none 40 [(2, vI ((k : Nat) : Int)), (0, vR a), (1, vR v)] [] 303 (PP w) (ov (ov (ov (cp2 (cp2 (up2 M a 0 (M v 2)) (v + 1) 0 (a + 1) 0 12) (v + 2) 0 (a + 2) 0 12) (a + 3) k (fun _ => 0)) (a + 4) k (fun _ => 0)) (a + 5) k (fun _ => 0)) (fun v n P M => v = none ∧ Q n P M) := by
  have hav := ha.apartC hv
  intro d
  induction d with
  | zero => intro k h1 h2; exfalso; omega
  | succ d ih =>
    intro k h1 h2
    refine go_iload_n 0 dX6_begin_40 rfl rfl ?_
    refine go_iconst dX6_begin_41 (by decide) ?_
    refine go_icmp_ge (tgt := 72) dX6_begin_42 rfl (fun c1 => ?_) (fun c1 => ?_)
    · refine go_aload_n 1 dX6_begin_72 rfl rfl ?_
      refine go_iconst dX6_begin_73 (by decide) ?_
      refine go_putI dX6_begin_74 (Or.inl lk6_34) ha.k0 ha.l0 rfl (Or.inl rfl) ?_
      refine go_aload_n 1 dX6_begin_77 rfl rfl ?_
      refine go_iconst dX6_begin_78 (by decide) ?_
      refine go_putI dX6_begin_79 (Or.inl lk6_37) ha.k0 ha.l0 rfl (Or.inl rfl) ?_
      refine go_aload_n 1 dX6_begin_82 rfl rfl ?_
      refine go_iconst dX6_begin_83 (by decide) ?_
      refine go_putZ dX6_begin_84 (Or.inl lk6_40) ha.k0 ha.l0 rfl (Or.inl rfl) (by decide) ?_
      refine go_aload_n 1 dX6_begin_87 rfl rfl ?_
      refine go_aload_n 2 dX6_begin_88 rfl rfl ?_
      refine gx_getI (v := (M v 0)) dX6_begin_89 lk6_61.get hv.k0 hv.l0 rfl ((up2_ne (by omega)).trans ((up2_ne (by omega)).trans ((up2_ne (by omega)).trans ((ov_out (by omega)).trans ((ov_out (by omega)).trans ((ov_out (by omega)).trans ((cp2_ne (by omega)).trans ((cp2_ne (by omega)).trans (up2_ne (by omega)))))))))) ?_
      refine go_if_eq (tgt := 106) dX6_begin_92 rfl (fun c2 => ?_) (fun c2 => ?_)
      · refine go_iconst dX6_begin_106 (by decide) ?_
        refine go_putZ dX6_begin_107 (Or.inl lk6_44) ha.k0 ha.l0 rfl (Or.inl rfl) (by decide) ?_
        refine go_aload_n 1 dX6_begin_110 rfl rfl ?_
        refine go_iconst dX6_begin_111 (by decide) ?_
        refine go_putI dX6_begin_112 (Or.inl lk6_47) ha.k0 ha.l0 rfl (Or.inl rfl) ?_
        refine go_ret dX6_begin_115 rfl ⟨rfl, ?_⟩
        rw [show k = 5 by omega]
        rw [mBegin] at hQ
        first | (rw [if_pos ⟨by omega, by omega⟩] at hQ; exact hQ) | (rw [if_neg (by omega)] at hQ; exact hQ)
      · refine go_aload_n 1 dX6_begin_95 rfl rfl ?_
        refine gx_getI (v := (M v 2)) dX6_begin_96 lk6_9.get ha.k0 ha.l0 rfl ((up2_ne (by omega)).trans ((up2_ne (by omega)).trans ((up2_ne (by omega)).trans ((ov_out (by omega)).trans ((ov_out (by omega)).trans ((ov_out (by omega)).trans ((cp2_ne (by omega)).trans ((cp2_ne (by omega)).trans up2_same)))))))) ?_
        refine go_if_ne (tgt := 106) dX6_begin_99 rfl (fun c3 => ?_) (fun c3 => ?_)
        · refine go_iconst dX6_begin_106 (by decide) ?_
          refine go_putZ dX6_begin_107 (Or.inl lk6_44) ha.k0 ha.l0 rfl (Or.inl rfl) (by decide) ?_
          refine go_aload_n 1 dX6_begin_110 rfl rfl ?_
          refine go_iconst dX6_begin_111 (by decide) ?_
          refine go_putI dX6_begin_112 (Or.inl lk6_47) ha.k0 ha.l0 rfl (Or.inl rfl) ?_
          refine go_ret dX6_begin_115 rfl ⟨rfl, ?_⟩
          rw [show k = 5 by omega]
          rw [mBegin] at hQ
          first | (rw [if_pos ⟨by omega, by omega⟩] at hQ; exact hQ) | (rw [if_neg (by omega)] at hQ; exact hQ)
        · refine go_iconst dX6_begin_102 (by decide) ?_
          refine go_goto (tgt := 107) dX6_begin_103 rfl ?_
          refine go_putZ dX6_begin_107 (Or.inl lk6_44) ha.k0 ha.l0 rfl (Or.inl rfl) (by decide) ?_
          refine go_aload_n 1 dX6_begin_110 rfl rfl ?_
          refine go_iconst dX6_begin_111 (by decide) ?_
          refine go_putI dX6_begin_112 (Or.inl lk6_47) ha.k0 ha.l0 rfl (Or.inl rfl) ?_
          refine go_ret dX6_begin_115 rfl ⟨rfl, ?_⟩
          rw [show k = 5 by omega]
          rw [mBegin] at hQ
          first | (rw [if_pos ⟨by omega, by omega⟩] at hQ; exact hQ) | (rw [if_neg (by omega)] at hQ; exact hQ)
    · refine go_aload_n 1 dX6_begin_45 rfl rfl ?_
      refine go_getR (r := (a + 3)) dX6_begin_46 lk6_22.get ha.k0 ha.l0 rfl (ha.p3 _) ?_
      refine go_iload_n 0 dX6_begin_49 rfl rfl ?_
      refine go_iconst dX6_begin_50 (by decide) ?_
      refine gx_iastore k dX6_begin_51 ha.k3 ha.l3 ha.n3 rfl (by omega) ?_
      refine go_aload_n 1 dX6_begin_52 rfl rfl ?_
      refine go_getR (r := (a + 4)) dX6_begin_53 lk6_25.get ha.k0 ha.l0 rfl (ha.p4 _) ?_
      refine go_iload_n 0 dX6_begin_56 rfl rfl ?_
      refine go_iconst dX6_begin_57 (by decide) ?_
      refine gx_iastore k dX6_begin_58 ha.k4 ha.l4 ha.n4 rfl (by omega) ?_
      refine go_aload_n 1 dX6_begin_59 rfl rfl ?_
      refine go_getR (r := (a + 5)) dX6_begin_60 lk6_28.get ha.k0 ha.l0 rfl (ha.p5 _) ?_
      refine go_iload_n 0 dX6_begin_63 rfl rfl ?_
      refine go_iconst dX6_begin_64 (by decide) ?_
      refine gx_iastore k dX6_begin_65 ha.k5 ha.l5 ha.n5 rfl (by omega) ?_
      refine gx_iinc (v := ((k + 1 : Nat) : Int)) (lv' := [(2, vI ((k + 1 : Nat) : Int)), (0, vR a), (1, vR v)]) 0 dX6_begin_66 rfl (by omega) ⟨by omega, by omega⟩ (by decide) rfl ?_
      refine go_goto (tgt := 40) dX6_begin_69 rfl ?_
      have e4 : (up2 (up2 (up2 (ov (ov (ov (cp2 (cp2 (up2 M a 0 (M v 2)) (v + 1) 0 (a + 1) 0 12) (v + 2) 0 (a + 2) 0 12) (a + 3) k (fun _ => 0)) (a + 4) k (fun _ => 0)) (a + 5) k (fun _ => 0)) (a + 3) k 0) (a + 4) k 0) (a + 5) k 0) = (ov (ov (ov (cp2 (cp2 (up2 M a 0 (M v 2)) (v + 1) 0 (a + 1) 0 12) (v + 2) 0 (a + 2) 0 12) (a + 3) (k + 1) (fun _ => 0)) (a + 4) (k + 1) (fun _ => 0)) (a + 5) (k + 1) (fun _ => 0)) := by rw [ov_up (x := a + 3) (by omega), ov_up (x := a + 4) (by omega), ov_up (x := a + 3) (by omega), ov_s rfl, ov_s rfl, ov_s rfl]
      rw [e4]
      exact ih (k + 1) (by omega) (by omega)

set_option maxHeartbeats 4000000 in
set_option maxRecDepth 100000 in
theorem ok_X6_begin {a w v : Nat} {M : inm} {Q : Nat → rfm → inm → Prop} (ha : On a) (hv : Cs v) (hQ : Q 303 (PP w) (mBegin M a v)) : OkV yX6_begin cX6_begin 3 1 0 0 [vR a, vR v] 303 (PP w) M Q := by
  refine OkV.of (by decide +kernel) (by decide +kernel) (Nat.le_of_ble_eq_true rfl) ?_
  refine go_eq (lv' := [(0, vR a), (1, vR v)]) rfl rfl rfl rfl rfl ?_
  have hav := ha.apartC hv
  refine go_aload_n 0 dX6_begin_0 rfl rfl ?_
  refine go_aload_n 1 dX6_begin_1 rfl rfl ?_
  refine gx_getI (v := (M v 2)) dX6_begin_2 lk6_50.get hv.k0 hv.l0 rfl rfl ?_
  refine go_putI dX6_begin_5 (Or.inl lk6_9) ha.k0 ha.l0 rfl (Or.inl rfl) ?_
  refine go_aload_n 1 dX6_begin_8 rfl rfl ?_
  refine go_getR (r := (v + 1)) dX6_begin_9 lk6_53 hv.k0 hv.l0 rfl (hv.p5 _) ?_
  refine go_iconst dX6_begin_12 (by decide) ?_
  refine go_aload_n 0 dX6_begin_13 rfl rfl ?_
  refine go_getR (r := (a + 1)) dX6_begin_14 lk6_15.get ha.k0 ha.l0 rfl (ha.p1 _) ?_
  refine go_iconst dX6_begin_17 (by decide) ?_
  refine go_bipush dX6_begin_18 (by decide) (by decide) ?_
  refine gx_copy 0 0 12 dX6_begin_20 ac6_54 (by decide) hv.k1 ha.k1 (hv.l (by omega)) ha.l1 rfl hv.n1 ha.n1 (by omega) (by omega) (by omega) (by omega) (by omega) (Nat.le_of_ble_eq_true rfl) ?_
  refine go_aload_n 1 dX6_begin_23 rfl rfl ?_
  refine go_getR (r := (v + 2)) dX6_begin_24 lk6_60 hv.k0 hv.l0 rfl (hv.p6 _) ?_
  refine go_iconst dX6_begin_27 (by decide) ?_
  refine go_aload_n 0 dX6_begin_28 rfl rfl ?_
  refine go_getR (r := (a + 2)) dX6_begin_29 lk6_19.get ha.k0 ha.l0 rfl (ha.p2 _) ?_
  refine go_iconst dX6_begin_32 (by decide) ?_
  refine go_bipush dX6_begin_33 (by decide) (by decide) ?_
  refine gx_copy 0 0 12 dX6_begin_35 ac6_54 (by decide) hv.k2 ha.k2 (hv.l (by omega)) ha.l2 rfl hv.n2 ha.n2 (by omega) (by omega) (by omega) (by omega) (by omega) (Nat.le_of_ble_eq_true rfl) ?_
  refine go_iconst dX6_begin_38 (by decide) ?_
  refine go_istore_n (lv' := [(2, vI 0), (0, vR a), (1, vR v)]) dX6_begin_39 rfl (by decide) rfl ?_
  refine go_lv [0, 1, 2] rfl ?_
  refine go_m (M' := (ov (ov (ov (cp2 (cp2 (up2 M a 0 (M v 2)) (v + 1) 0 (a + 1) 0 12) (v + 2) 0 (a + 2) 0 12) (a + 3) 0 (fun _ => 0)) (a + 4) 0 (fun _ => 0)) (a + 5) 0 (fun _ => 0))) (by rw [ov_0, ov_0, ov_0]) ?_
  exact lp_X6_begin ha hv hQ 6 0 (by omega) (by omega)

def mTake1 (M : inm) (a e : Nat) (c : Int) : inm := up2 (up2 (up2 M (a + 3) e (min 9999 (M (a + 3) e + worth (M (a + 1) 0) (M (a + 2) 0)))) (a + 4) e (min 9999 (M (a + 4) e + sting (M (a + 1) 0) (M (a + 2) 0) + c))) (a + 5) e (M (a + 5) e + 1)
def mTake2 (M : inm) (a e : Nat) (c : Int) : inm := if M (a + 1) 0 = 4 ∧ 0 ≤ M a 11 then up2 (mTake1 M a e c) (a + 3) (M a 11).toNat (min 9999 (up2 M (a + 3) e (min 9999 (M (a + 3) e + worth (M (a + 1) 0) (M (a + 2) 0))) (a + 3) (M a 11).toNat + 5)) else mTake1 M a e c
def mTake3 (M : inm) (a e : Nat) (c : Int) : inm := cp2 (cp2 (up2 (mEnter (up2 (mTake2 M a e c) a 11 (e : Int)) a e) a 0 (M a 0 - 1)) (a + 1) 1 (a + 1) 0 11) (a + 2) 1 (a + 2) 0 11
def mTake (M : inm) (a e : Nat) (c : Int) : inm := if M a 0 = 1 then up2 (mTake3 M a e c) a 10 1 else mTake3 M a e c
set_option maxHeartbeats 4000000 in
set_option maxRecDepth 100000 in
theorem ok_X6_takeOff {a w e : Nat} {c : Int} {M : inm} {Q : Int → Nat → rfm → inm → Prop} (ha : On a) (he : e < 5) (hc : 0 ≤ c ∧ c ≤ 9) (h0 : 1 ≤ M a 0 ∧ M a 0 ≤ 12) (h2 : 0 ≤ M (a + 2) 0 ∧ M (a + 2) 0 ≤ 20) (h3 : ∀ e, e < 5 → 0 ≤ M (a + 3) e ∧ M (a + 3) e ≤ 9999) (h4 : ∀ e, e < 5 → 0 ≤ M (a + 4) e ∧ M (a + 4) e ≤ 9999) (h5 : ∀ e, e < 5 → 0 ≤ M (a + 5) e ∧ M (a + 5) e ≤ 1000000) (h7 : 0 ≤ M a 7 ∧ M a 7 ≤ 20) (h11 : -1 ≤ M a 11 ∧ M a 11 ≤ 4) (hQ : Q (worth (M (a + 1) 0) (M (a + 2) 0)) 303 (PP w) (mTake M a e c)) : OkI yX6_takeOff cX6_takeOff 4 2 0 0 (some .int) [vR a, vI ((e : Nat) : Int), vI c] 303 (PP w) M Q := by
  refine OkI.of (by decide +kernel) (by decide +kernel) (Nat.le_of_ble_eq_true rfl) ?_
  refine go_eq (lv' := [(0, vR a), (1, vI ((e : Nat) : Int)), (2, vI c)]) rfl rfl rfl rfl rfl ?_
  refine go_aload_n 0 dX6_takeOff_0 rfl rfl ?_
  refine gx_getI (v := (M a 0)) dX6_takeOff_1 lk6_9.get ha.k0 ha.l0 rfl rfl ?_
  refine go_iconst dX6_takeOff_4 (by decide) ?_
  refine go_icmp_lt (tgt := 17) dX6_takeOff_5 rfl (fun c1 => ?_) (fun c1 => ?_)
  · exact absurd c1 (by omega)
  · refine go_iload_n 1 dX6_takeOff_8 rfl rfl ?_
    refine go_if_lt (tgt := 17) dX6_takeOff_9 rfl (fun c2 => ?_) (fun c2 => ?_)
    · exact absurd c2 (by omega)
    · refine go_iload_n 1 dX6_takeOff_12 rfl rfl ?_
      refine go_iconst dX6_takeOff_13 (by decide) ?_
      refine go_icmp_lt (tgt := 19) dX6_takeOff_14 rfl (fun c3 => ?_) (fun c3 => ?_)
      · refine go_aload_n 0 dX6_takeOff_19 rfl rfl ?_
        refine go_iconst dX6_takeOff_20 (by decide) ?_
        refine go_callVI (av := [vI 0]) (st := []) (a := a) (mc2 := 0) (ms2 := 0) dX6_takeOff_21 cw6_68 (by decide) rfl rfl (Nat.le_of_ble_eq_true rfl) rfl rfl ha.k0 ⟨_, _, rfl⟩ (by decide) ha.l0 (ok_X6_worthOf (k := 0) (M := M) ha (by rw [show M a 0 = M a 0 from rfl]; omega) (by omega) (by rw [show M (a + 2) 0 = M (a + 2) 0 from rfl]; omega) ?_)
        have g4 := worth_in (c := M (a + 1) 0) h2.1
        refine go_istore_n (lv' := [(3, vI (worth (M (a + 1) 0) (M (a + 2) 0))), (0, vR a), (1, vI ((e : Nat) : Int)), (2, vI c)]) dX6_takeOff_24 rfl (by decide) rfl ?_
        refine go_aload_n 1 dX6_takeOff_25 rfl rfl ?_
        refine go_getR (r := (a + 3)) dX6_takeOff_26 lk6_22.get ha.k0 ha.l0 rfl (ha.p3 _) ?_
        refine go_iload_n 2 dX6_takeOff_29 rfl rfl ?_
        refine go_sipush dX6_takeOff_30 (by decide) (by decide) ?_
        refine go_aload_n 1 dX6_takeOff_33 rfl rfl ?_
        refine go_getR (r := (a + 3)) dX6_takeOff_34 lk6_22.get ha.k0 ha.l0 rfl (ha.p3 _) ?_
        refine go_iload_n 2 dX6_takeOff_37 rfl rfl ?_
        have f5 := h3 e (by omega)
        refine gx_iaload (v := (M (a + 3) e)) e dX6_takeOff_38 ha.k3 ha.l3 ha.n3 rfl (by omega) rfl ?_
        refine go_iload_n 0 dX6_takeOff_39 rfl rfl ?_
        refine gx_iadd (v := ((M (a + 3) e) + (worth (M (a + 1) 0) (M (a + 2) 0)))) dX6_takeOff_40 rfl ⟨by omega, by omega⟩ ?_
        refine gx_min (v := (min 9999 ((M (a + 3) e) + (worth (M (a + 1) 0) (M (a + 2) 0))))) dX6_takeOff_41 mm6_72 (by decide) (Nat.le_of_ble_eq_true rfl) rfl ?_
        refine gx_iastore e dX6_takeOff_44 ha.k3 ha.l3 ha.n3 rfl (by omega) ?_
        refine go_aload_n 1 dX6_takeOff_45 rfl rfl ?_
        refine go_getR (r := (a + 4)) dX6_takeOff_46 lk6_25.get ha.k0 ha.l0 rfl (ha.p4 _) ?_
        refine go_iload_n 2 dX6_takeOff_49 rfl rfl ?_
        refine go_sipush dX6_takeOff_50 (by decide) (by decide) ?_
        refine go_aload_n 1 dX6_takeOff_53 rfl rfl ?_
        refine go_getR (r := (a + 4)) dX6_takeOff_54 lk6_25.get ha.k0 ha.l0 rfl (ha.p4 _) ?_
        refine go_iload_n 2 dX6_takeOff_57 rfl rfl ?_
        have f6 := h4 e (by omega)
        refine gx_iaload (v := (M (a + 4) e)) e dX6_takeOff_58 ha.k4 ha.l4 ha.n4 rfl (by omega) (up2_ne (by omega)) ?_
        refine go_aload_n 1 dX6_takeOff_59 rfl rfl ?_
        refine go_iconst dX6_takeOff_60 (by decide) ?_
        refine go_callVI (av := [vI 0]) (st := [vI (M (a + 4) e), vI 9999, vI ((e : Nat) : Int), vR (a + 4)]) (a := a) (mc2 := 0) (ms2 := 0) dX6_takeOff_61 cw6_78 (by decide) rfl rfl (Nat.le_of_ble_eq_true rfl) rfl rfl ha.k0 ⟨_, _, rfl⟩ (by decide) ha.l0 (ok_X6_stingOf (k := 0) (M := (up2 M (a + 3) e (min 9999 ((M (a + 3) e) + (worth (M (a + 1) 0) (M (a + 2) 0)))))) ha (by rw [(up2_ne (by omega))]; omega) (by omega) (by rw [(up2_ne (by omega))]; omega) ?_)
        rw [(up2_ne (by omega)), (up2_ne (by omega))]
        have g7 := sting_in (c := M (a + 1) 0) h2.1
        refine gx_iadd (v := ((M (a + 4) e) + (sting (M (a + 1) 0) (M (a + 2) 0)))) dX6_takeOff_64 rfl ⟨by omega, by omega⟩ ?_
        refine go_iload_n 3 dX6_takeOff_65 rfl rfl ?_
        refine gx_iadd (v := (((M (a + 4) e) + (sting (M (a + 1) 0) (M (a + 2) 0))) + c)) dX6_takeOff_66 rfl ⟨by omega, by omega⟩ ?_
        refine gx_min (v := (min 9999 (((M (a + 4) e) + (sting (M (a + 1) 0) (M (a + 2) 0))) + c))) dX6_takeOff_67 mm6_72 (by decide) (Nat.le_of_ble_eq_true rfl) rfl ?_
        refine gx_iastore e dX6_takeOff_70 ha.k4 ha.l4 ha.n4 rfl (by omega) ?_
        refine go_aload_n 1 dX6_takeOff_71 rfl rfl ?_
        refine go_getR (r := (a + 5)) dX6_takeOff_72 lk6_28.get ha.k0 ha.l0 rfl (ha.p5 _) ?_
        refine go_iload_n 2 dX6_takeOff_75 rfl rfl ?_
        refine go_dup2 dX6_takeOff_76 rfl rfl ?_
        have f8 := h5 e (by omega)
        refine gx_iaload (v := (M (a + 5) e)) e dX6_takeOff_77 ha.k5 ha.l5 ha.n5 rfl (by omega) ((up2_ne (by omega)).trans (up2_ne (by omega))) ?_
        refine go_iconst dX6_takeOff_78 (by decide) ?_
        refine gx_iadd (v := ((M (a + 5) e) + 1)) dX6_takeOff_79 rfl ⟨by omega, by omega⟩ ?_
        refine gx_iastore e dX6_takeOff_80 ha.k5 ha.l5 ha.n5 rfl (by omega) ?_
        refine go_aload_n 1 dX6_takeOff_81 rfl rfl ?_
        refine go_getR (r := (a + 1)) dX6_takeOff_82 lk6_15.get ha.k0 ha.l0 rfl (ha.p1 _) ?_
        refine go_iconst dX6_takeOff_85 (by decide) ?_
        refine gx_iaload (v := (M (a + 1) 0)) 0 dX6_takeOff_86 ha.k1 ha.l1 ha.n1 (by omega) (by omega) ((up2_ne (by omega)).trans ((up2_ne (by omega)).trans (up2_ne (by omega)))) ?_
        refine go_iconst dX6_takeOff_87 (by decide) ?_
        refine go_icmp_ne (tgt := 132) dX6_takeOff_88 rfl (fun c9 => ?_) (fun c9 => ?_)
        · refine go_aload_n 1 dX6_takeOff_132 rfl rfl ?_
          refine go_iload_n 2 dX6_takeOff_133 rfl rfl ?_
          refine go_putI dX6_takeOff_134 (Or.inl lk6_47) ha.k0 ha.l0 rfl (Or.inl rfl) ?_
          refine go_aload_n 1 dX6_takeOff_137 rfl rfl ?_
          refine go_iload_n 2 dX6_takeOff_138 rfl rfl ?_
          refine go_callVV (av := [vI ((e : Nat) : Int)]) (st := []) (a := a) (mc2 := 0) (ms2 := 0) dX6_takeOff_139 cw6_81 (by decide) rfl rfl (Nat.le_of_ble_eq_true rfl) rfl rfl ha.k0 ⟨_, _, rfl⟩ (by decide) ha.l0 (ok_X6_enter (M := (up2 (up2 (up2 (up2 M (a + 3) e (min 9999 ((M (a + 3) e) + (worth (M (a + 1) 0) (M (a + 2) 0))))) (a + 4) e (min 9999 (((M (a + 4) e) + (sting (M (a + 1) 0) (M (a + 2) 0))) + c))) (a + 5) e ((M (a + 5) e) + 1)) a 11 ((e : Nat) : Int))) ha (by rw [((up2_ne (by omega)).trans ((up2_ne (by omega)).trans ((up2_ne (by omega)).trans (up2_ne (by omega)))))]; omega) ?_)
          refine go_aload_n 1 dX6_takeOff_142 rfl rfl ?_
          refine go_dup dX6_takeOff_143 rfl ?_
          refine gx_getI (v := (M a 0)) dX6_takeOff_144 lk6_9.get ha.k0 ha.l0 rfl ((by show mEnter _ a e a 0 = _; unfold mEnter; rw [up2_ne (by omega), up2_ne (by omega), up2_ne (by omega), up2_ne (by omega), up2_ne (by omega), cp2_ne (by omega)]; exact ((up2_ne (by omega)).trans ((up2_ne (by omega)).trans ((up2_ne (by omega)).trans (up2_ne (by omega))))))) ?_
          refine go_iconst dX6_takeOff_147 (by decide) ?_
          refine gx_isub (v := ((M a 0) - 1)) dX6_takeOff_148 rfl ⟨by omega, by omega⟩ ?_
          refine go_putI dX6_takeOff_149 (Or.inl lk6_9) ha.k0 ha.l0 rfl (Or.inl rfl) ?_
          refine go_aload_n 1 dX6_takeOff_152 rfl rfl ?_
          refine go_getR (r := (a + 1)) dX6_takeOff_153 lk6_15.get ha.k0 ha.l0 rfl (ha.p1 _) ?_
          refine go_iconst dX6_takeOff_156 (by decide) ?_
          refine go_aload_n 1 dX6_takeOff_157 rfl rfl ?_
          refine go_getR (r := (a + 1)) dX6_takeOff_158 lk6_15.get ha.k0 ha.l0 rfl (ha.p1 _) ?_
          refine go_iconst dX6_takeOff_161 (by decide) ?_
          refine go_bipush dX6_takeOff_162 (by decide) (by decide) ?_
          refine gx_copy 1 0 11 dX6_takeOff_164 ac6_54 (by decide) ha.k1 ha.k1 ha.l1 ha.l1 rfl ha.n1 ha.n1 (by omega) (by omega) (by omega) (by omega) (by omega) (Nat.le_of_ble_eq_true rfl) ?_
          refine go_aload_n 1 dX6_takeOff_167 rfl rfl ?_
          refine go_getR (r := (a + 2)) dX6_takeOff_168 lk6_19.get ha.k0 ha.l0 rfl (ha.p2 _) ?_
          refine go_iconst dX6_takeOff_171 (by decide) ?_
          refine go_aload_n 1 dX6_takeOff_172 rfl rfl ?_
          refine go_getR (r := (a + 2)) dX6_takeOff_173 lk6_19.get ha.k0 ha.l0 rfl (ha.p2 _) ?_
          refine go_iconst dX6_takeOff_176 (by decide) ?_
          refine go_bipush dX6_takeOff_177 (by decide) (by decide) ?_
          refine gx_copy 1 0 11 dX6_takeOff_179 ac6_54 (by decide) ha.k2 ha.k2 ha.l2 ha.l2 rfl ha.n2 ha.n2 (by omega) (by omega) (by omega) (by omega) (by omega) (Nat.le_of_ble_eq_true rfl) ?_
          refine go_aload_n 1 dX6_takeOff_182 rfl rfl ?_
          refine gx_getI (v := ((M a 0) - 1)) dX6_takeOff_183 lk6_9.get ha.k0 ha.l0 rfl ((cp2_ne (by omega)).trans ((cp2_ne (by omega)).trans up2_same)) ?_
          refine go_if_ne (tgt := 194) dX6_takeOff_186 rfl (fun c10 => ?_) (fun c10 => ?_)
          · refine go_iload_n 0 dX6_takeOff_194 rfl rfl ?_
            refine go_iret dX6_takeOff_195 rfl rfl ⟨_, rfl, ?_⟩
            first | (rw [show mTake M a e c = up2 (mTake3 M a e c) a 10 1 from if_pos (by omega), mTake3, show mTake2 M a e c = _ from if_pos ⟨by omega, by omega⟩] at hQ; exact hQ) | (rw [show mTake M a e c = up2 (mTake3 M a e c) a 10 1 from if_pos (by omega), mTake3, show mTake2 M a e c = mTake1 M a e c from if_neg (by omega)] at hQ; exact hQ) | (rw [show mTake M a e c = mTake3 M a e c from if_neg (by omega), mTake3, show mTake2 M a e c = _ from if_pos ⟨by omega, by omega⟩] at hQ; exact hQ) | (rw [show mTake M a e c = mTake3 M a e c from if_neg (by omega), mTake3, show mTake2 M a e c = mTake1 M a e c from if_neg (by omega)] at hQ; exact hQ)
          · refine go_aload_n 1 dX6_takeOff_189 rfl rfl ?_
            refine go_iconst dX6_takeOff_190 (by decide) ?_
            refine go_putZ dX6_takeOff_191 (Or.inl lk6_44) ha.k0 ha.l0 rfl (Or.inl rfl) (by decide) ?_
            refine go_iload_n 0 dX6_takeOff_194 rfl rfl ?_
            refine go_iret dX6_takeOff_195 rfl rfl ⟨_, rfl, ?_⟩
            first | (rw [show mTake M a e c = up2 (mTake3 M a e c) a 10 1 from if_pos (by omega), mTake3, show mTake2 M a e c = _ from if_pos ⟨by omega, by omega⟩] at hQ; exact hQ) | (rw [show mTake M a e c = up2 (mTake3 M a e c) a 10 1 from if_pos (by omega), mTake3, show mTake2 M a e c = mTake1 M a e c from if_neg (by omega)] at hQ; exact hQ) | (rw [show mTake M a e c = mTake3 M a e c from if_neg (by omega), mTake3, show mTake2 M a e c = _ from if_pos ⟨by omega, by omega⟩] at hQ; exact hQ) | (rw [show mTake M a e c = mTake3 M a e c from if_neg (by omega), mTake3, show mTake2 M a e c = mTake1 M a e c from if_neg (by omega)] at hQ; exact hQ)
        · refine go_aload_n 1 dX6_takeOff_91 rfl rfl ?_
          refine gx_getI (v := (M a 11)) dX6_takeOff_92 lk6_47.get ha.k0 ha.l0 rfl ((up2_ne (by omega)).trans ((up2_ne (by omega)).trans (up2_ne (by omega)))) ?_
          refine go_if_lt (tgt := 132) dX6_takeOff_95 rfl (fun c11 => ?_) (fun c11 => ?_)
          · refine go_aload_n 1 dX6_takeOff_132 rfl rfl ?_
            refine go_iload_n 2 dX6_takeOff_133 rfl rfl ?_
            refine go_putI dX6_takeOff_134 (Or.inl lk6_47) ha.k0 ha.l0 rfl (Or.inl rfl) ?_
            refine go_aload_n 1 dX6_takeOff_137 rfl rfl ?_
            refine go_iload_n 2 dX6_takeOff_138 rfl rfl ?_
            refine go_callVV (av := [vI ((e : Nat) : Int)]) (st := []) (a := a) (mc2 := 0) (ms2 := 0) dX6_takeOff_139 cw6_81 (by decide) rfl rfl (Nat.le_of_ble_eq_true rfl) rfl rfl ha.k0 ⟨_, _, rfl⟩ (by decide) ha.l0 (ok_X6_enter (M := (up2 (up2 (up2 (up2 M (a + 3) e (min 9999 ((M (a + 3) e) + (worth (M (a + 1) 0) (M (a + 2) 0))))) (a + 4) e (min 9999 (((M (a + 4) e) + (sting (M (a + 1) 0) (M (a + 2) 0))) + c))) (a + 5) e ((M (a + 5) e) + 1)) a 11 ((e : Nat) : Int))) ha (by rw [((up2_ne (by omega)).trans ((up2_ne (by omega)).trans ((up2_ne (by omega)).trans (up2_ne (by omega)))))]; omega) ?_)
            refine go_aload_n 1 dX6_takeOff_142 rfl rfl ?_
            refine go_dup dX6_takeOff_143 rfl ?_
            refine gx_getI (v := (M a 0)) dX6_takeOff_144 lk6_9.get ha.k0 ha.l0 rfl ((by show mEnter _ a e a 0 = _; unfold mEnter; rw [up2_ne (by omega), up2_ne (by omega), up2_ne (by omega), up2_ne (by omega), up2_ne (by omega), cp2_ne (by omega)]; exact ((up2_ne (by omega)).trans ((up2_ne (by omega)).trans ((up2_ne (by omega)).trans (up2_ne (by omega))))))) ?_
            refine go_iconst dX6_takeOff_147 (by decide) ?_
            refine gx_isub (v := ((M a 0) - 1)) dX6_takeOff_148 rfl ⟨by omega, by omega⟩ ?_
            refine go_putI dX6_takeOff_149 (Or.inl lk6_9) ha.k0 ha.l0 rfl (Or.inl rfl) ?_
            refine go_aload_n 1 dX6_takeOff_152 rfl rfl ?_
            refine go_getR (r := (a + 1)) dX6_takeOff_153 lk6_15.get ha.k0 ha.l0 rfl (ha.p1 _) ?_
            refine go_iconst dX6_takeOff_156 (by decide) ?_
            refine go_aload_n 1 dX6_takeOff_157 rfl rfl ?_
            refine go_getR (r := (a + 1)) dX6_takeOff_158 lk6_15.get ha.k0 ha.l0 rfl (ha.p1 _) ?_
            refine go_iconst dX6_takeOff_161 (by decide) ?_
            refine go_bipush dX6_takeOff_162 (by decide) (by decide) ?_
            refine gx_copy 1 0 11 dX6_takeOff_164 ac6_54 (by decide) ha.k1 ha.k1 ha.l1 ha.l1 rfl ha.n1 ha.n1 (by omega) (by omega) (by omega) (by omega) (by omega) (Nat.le_of_ble_eq_true rfl) ?_
            refine go_aload_n 1 dX6_takeOff_167 rfl rfl ?_
            refine go_getR (r := (a + 2)) dX6_takeOff_168 lk6_19.get ha.k0 ha.l0 rfl (ha.p2 _) ?_
            refine go_iconst dX6_takeOff_171 (by decide) ?_
            refine go_aload_n 1 dX6_takeOff_172 rfl rfl ?_
            refine go_getR (r := (a + 2)) dX6_takeOff_173 lk6_19.get ha.k0 ha.l0 rfl (ha.p2 _) ?_
            refine go_iconst dX6_takeOff_176 (by decide) ?_
            refine go_bipush dX6_takeOff_177 (by decide) (by decide) ?_
            refine gx_copy 1 0 11 dX6_takeOff_179 ac6_54 (by decide) ha.k2 ha.k2 ha.l2 ha.l2 rfl ha.n2 ha.n2 (by omega) (by omega) (by omega) (by omega) (by omega) (Nat.le_of_ble_eq_true rfl) ?_
            refine go_aload_n 1 dX6_takeOff_182 rfl rfl ?_
            refine gx_getI (v := ((M a 0) - 1)) dX6_takeOff_183 lk6_9.get ha.k0 ha.l0 rfl ((cp2_ne (by omega)).trans ((cp2_ne (by omega)).trans up2_same)) ?_
            refine go_if_ne (tgt := 194) dX6_takeOff_186 rfl (fun c12 => ?_) (fun c12 => ?_)
            · refine go_iload_n 0 dX6_takeOff_194 rfl rfl ?_
              refine go_iret dX6_takeOff_195 rfl rfl ⟨_, rfl, ?_⟩
              first | (rw [show mTake M a e c = up2 (mTake3 M a e c) a 10 1 from if_pos (by omega), mTake3, show mTake2 M a e c = _ from if_pos ⟨by omega, by omega⟩] at hQ; exact hQ) | (rw [show mTake M a e c = up2 (mTake3 M a e c) a 10 1 from if_pos (by omega), mTake3, show mTake2 M a e c = mTake1 M a e c from if_neg (by omega)] at hQ; exact hQ) | (rw [show mTake M a e c = mTake3 M a e c from if_neg (by omega), mTake3, show mTake2 M a e c = _ from if_pos ⟨by omega, by omega⟩] at hQ; exact hQ) | (rw [show mTake M a e c = mTake3 M a e c from if_neg (by omega), mTake3, show mTake2 M a e c = mTake1 M a e c from if_neg (by omega)] at hQ; exact hQ)
            · refine go_aload_n 1 dX6_takeOff_189 rfl rfl ?_
              refine go_iconst dX6_takeOff_190 (by decide) ?_
              refine go_putZ dX6_takeOff_191 (Or.inl lk6_44) ha.k0 ha.l0 rfl (Or.inl rfl) (by decide) ?_
              refine go_iload_n 0 dX6_takeOff_194 rfl rfl ?_
              refine go_iret dX6_takeOff_195 rfl rfl ⟨_, rfl, ?_⟩
              first | (rw [show mTake M a e c = up2 (mTake3 M a e c) a 10 1 from if_pos (by omega), mTake3, show mTake2 M a e c = _ from if_pos ⟨by omega, by omega⟩] at hQ; exact hQ) | (rw [show mTake M a e c = up2 (mTake3 M a e c) a 10 1 from if_pos (by omega), mTake3, show mTake2 M a e c = mTake1 M a e c from if_neg (by omega)] at hQ; exact hQ) | (rw [show mTake M a e c = mTake3 M a e c from if_neg (by omega), mTake3, show mTake2 M a e c = _ from if_pos ⟨by omega, by omega⟩] at hQ; exact hQ) | (rw [show mTake M a e c = mTake3 M a e c from if_neg (by omega), mTake3, show mTake2 M a e c = mTake1 M a e c from if_neg (by omega)] at hQ; exact hQ)
          · refine go_aload_n 1 dX6_takeOff_98 rfl rfl ?_
            refine gx_getI (v := (M a 11)) dX6_takeOff_99 lk6_47.get ha.k0 ha.l0 rfl ((up2_ne (by omega)).trans ((up2_ne (by omega)).trans (up2_ne (by omega)))) ?_
            refine go_iconst dX6_takeOff_102 (by decide) ?_
            refine go_icmp_ge (tgt := 132) dX6_takeOff_103 rfl (fun c13 => ?_) (fun c13 => ?_)
            · exact absurd c13 (by omega)
            · refine go_aload_n 1 dX6_takeOff_106 rfl rfl ?_
              refine go_getR (r := (a + 3)) dX6_takeOff_107 lk6_22.get ha.k0 ha.l0 rfl (ha.p3 _) ?_
              refine go_aload_n 1 dX6_takeOff_110 rfl rfl ?_
              refine gx_getI (v := (M a 11)) dX6_takeOff_111 lk6_47.get ha.k0 ha.l0 rfl ((up2_ne (by omega)).trans ((up2_ne (by omega)).trans (up2_ne (by omega)))) ?_
              refine go_sipush dX6_takeOff_114 (by decide) (by decide) ?_
              refine go_aload_n 1 dX6_takeOff_117 rfl rfl ?_
              refine go_getR (r := (a + 3)) dX6_takeOff_118 lk6_22.get ha.k0 ha.l0 rfl (ha.p3 _) ?_
              refine go_aload_n 1 dX6_takeOff_121 rfl rfl ?_
              refine gx_getI (v := (M a 11)) dX6_takeOff_122 lk6_47.get ha.k0 ha.l0 rfl ((up2_ne (by omega)).trans ((up2_ne (by omega)).trans (up2_ne (by omega)))) ?_
              have f14 := (show 0 ≤ ((up2 M (a + 3) e (min 9999 ((M (a + 3) e) + (worth (M (a + 1) 0) (M (a + 2) 0))))) (a + 3) (((M a 11)).toNat)) ∧ ((up2 M (a + 3) e (min 9999 ((M (a + 3) e) + (worth (M (a + 1) 0) (M (a + 2) 0))))) (a + 3) (((M a 11)).toNat)) ≤ 9999 by have q := h3 (((M a 11)).toNat) (by omega); have q2 := h3 e (by omega); simp only [up2]; split <;> omega)
              refine gx_iaload (v := ((up2 M (a + 3) e (min 9999 ((M (a + 3) e) + (worth (M (a + 1) 0) (M (a + 2) 0))))) (a + 3) (((M a 11)).toNat))) (((M a 11)).toNat) dX6_takeOff_125 ha.k3 ha.l3 ha.n3 (by omega) (by omega) ((up2_ne (by omega)).trans (up2_ne (by omega))) ?_
              refine go_iconst dX6_takeOff_126 (by decide) ?_
              refine gx_iadd (v := (((up2 M (a + 3) e (min 9999 ((M (a + 3) e) + (worth (M (a + 1) 0) (M (a + 2) 0))))) (a + 3) (((M a 11)).toNat)) + 5)) dX6_takeOff_127 rfl ⟨by omega, by omega⟩ ?_
              refine gx_min (v := (min 9999 (((up2 M (a + 3) e (min 9999 ((M (a + 3) e) + (worth (M (a + 1) 0) (M (a + 2) 0))))) (a + 3) (((M a 11)).toNat)) + 5))) dX6_takeOff_128 mm6_72 (by decide) (Nat.le_of_ble_eq_true rfl) rfl ?_
              refine gx_iastore (((M a 11)).toNat) dX6_takeOff_131 ha.k3 ha.l3 ha.n3 (by omega) (by omega) ?_
              refine go_aload_n 1 dX6_takeOff_132 rfl rfl ?_
              refine go_iload_n 2 dX6_takeOff_133 rfl rfl ?_
              refine go_putI dX6_takeOff_134 (Or.inl lk6_47) ha.k0 ha.l0 rfl (Or.inl rfl) ?_
              refine go_aload_n 1 dX6_takeOff_137 rfl rfl ?_
              refine go_iload_n 2 dX6_takeOff_138 rfl rfl ?_
              refine go_callVV (av := [vI ((e : Nat) : Int)]) (st := []) (a := a) (mc2 := 0) (ms2 := 0) dX6_takeOff_139 cw6_81 (by decide) rfl rfl (Nat.le_of_ble_eq_true rfl) rfl rfl ha.k0 ⟨_, _, rfl⟩ (by decide) ha.l0 (ok_X6_enter (M := (up2 (up2 (up2 (up2 (up2 M (a + 3) e (min 9999 ((M (a + 3) e) + (worth (M (a + 1) 0) (M (a + 2) 0))))) (a + 4) e (min 9999 (((M (a + 4) e) + (sting (M (a + 1) 0) (M (a + 2) 0))) + c))) (a + 5) e ((M (a + 5) e) + 1)) (a + 3) (((M a 11)).toNat) (min 9999 (((up2 M (a + 3) e (min 9999 ((M (a + 3) e) + (worth (M (a + 1) 0) (M (a + 2) 0))))) (a + 3) (((M a 11)).toNat)) + 5))) a 11 ((e : Nat) : Int))) ha (by rw [((up2_ne (by omega)).trans ((up2_ne (by omega)).trans ((up2_ne (by omega)).trans ((up2_ne (by omega)).trans (up2_ne (by omega))))))]; omega) ?_)
              refine go_aload_n 1 dX6_takeOff_142 rfl rfl ?_
              refine go_dup dX6_takeOff_143 rfl ?_
              refine gx_getI (v := (M a 0)) dX6_takeOff_144 lk6_9.get ha.k0 ha.l0 rfl ((by show mEnter _ a e a 0 = _; unfold mEnter; rw [up2_ne (by omega), up2_ne (by omega), up2_ne (by omega), up2_ne (by omega), up2_ne (by omega), cp2_ne (by omega)]; exact ((up2_ne (by omega)).trans ((up2_ne (by omega)).trans ((up2_ne (by omega)).trans ((up2_ne (by omega)).trans (up2_ne (by omega)))))))) ?_
              refine go_iconst dX6_takeOff_147 (by decide) ?_
              refine gx_isub (v := ((M a 0) - 1)) dX6_takeOff_148 rfl ⟨by omega, by omega⟩ ?_
              refine go_putI dX6_takeOff_149 (Or.inl lk6_9) ha.k0 ha.l0 rfl (Or.inl rfl) ?_
              refine go_aload_n 1 dX6_takeOff_152 rfl rfl ?_
              refine go_getR (r := (a + 1)) dX6_takeOff_153 lk6_15.get ha.k0 ha.l0 rfl (ha.p1 _) ?_
              refine go_iconst dX6_takeOff_156 (by decide) ?_
              refine go_aload_n 1 dX6_takeOff_157 rfl rfl ?_
              refine go_getR (r := (a + 1)) dX6_takeOff_158 lk6_15.get ha.k0 ha.l0 rfl (ha.p1 _) ?_
              refine go_iconst dX6_takeOff_161 (by decide) ?_
              refine go_bipush dX6_takeOff_162 (by decide) (by decide) ?_
              refine gx_copy 1 0 11 dX6_takeOff_164 ac6_54 (by decide) ha.k1 ha.k1 ha.l1 ha.l1 rfl ha.n1 ha.n1 (by omega) (by omega) (by omega) (by omega) (by omega) (Nat.le_of_ble_eq_true rfl) ?_
              refine go_aload_n 1 dX6_takeOff_167 rfl rfl ?_
              refine go_getR (r := (a + 2)) dX6_takeOff_168 lk6_19.get ha.k0 ha.l0 rfl (ha.p2 _) ?_
              refine go_iconst dX6_takeOff_171 (by decide) ?_
              refine go_aload_n 1 dX6_takeOff_172 rfl rfl ?_
              refine go_getR (r := (a + 2)) dX6_takeOff_173 lk6_19.get ha.k0 ha.l0 rfl (ha.p2 _) ?_
              refine go_iconst dX6_takeOff_176 (by decide) ?_
              refine go_bipush dX6_takeOff_177 (by decide) (by decide) ?_
              refine gx_copy 1 0 11 dX6_takeOff_179 ac6_54 (by decide) ha.k2 ha.k2 ha.l2 ha.l2 rfl ha.n2 ha.n2 (by omega) (by omega) (by omega) (by omega) (by omega) (Nat.le_of_ble_eq_true rfl) ?_
              refine go_aload_n 1 dX6_takeOff_182 rfl rfl ?_
              refine gx_getI (v := ((M a 0) - 1)) dX6_takeOff_183 lk6_9.get ha.k0 ha.l0 rfl ((cp2_ne (by omega)).trans ((cp2_ne (by omega)).trans up2_same)) ?_
              refine go_if_ne (tgt := 194) dX6_takeOff_186 rfl (fun c15 => ?_) (fun c15 => ?_)
              · refine go_iload_n 0 dX6_takeOff_194 rfl rfl ?_
                refine go_iret dX6_takeOff_195 rfl rfl ⟨_, rfl, ?_⟩
                first | (rw [show mTake M a e c = up2 (mTake3 M a e c) a 10 1 from if_pos (by omega), mTake3, show mTake2 M a e c = _ from if_pos ⟨by omega, by omega⟩] at hQ; exact hQ) | (rw [show mTake M a e c = up2 (mTake3 M a e c) a 10 1 from if_pos (by omega), mTake3, show mTake2 M a e c = mTake1 M a e c from if_neg (by omega)] at hQ; exact hQ) | (rw [show mTake M a e c = mTake3 M a e c from if_neg (by omega), mTake3, show mTake2 M a e c = _ from if_pos ⟨by omega, by omega⟩] at hQ; exact hQ) | (rw [show mTake M a e c = mTake3 M a e c from if_neg (by omega), mTake3, show mTake2 M a e c = mTake1 M a e c from if_neg (by omega)] at hQ; exact hQ)
              · refine go_aload_n 1 dX6_takeOff_189 rfl rfl ?_
                refine go_iconst dX6_takeOff_190 (by decide) ?_
                refine go_putZ dX6_takeOff_191 (Or.inl lk6_44) ha.k0 ha.l0 rfl (Or.inl rfl) (by decide) ?_
                refine go_iload_n 0 dX6_takeOff_194 rfl rfl ?_
                refine go_iret dX6_takeOff_195 rfl rfl ⟨_, rfl, ?_⟩
                first | (rw [show mTake M a e c = up2 (mTake3 M a e c) a 10 1 from if_pos (by omega), mTake3, show mTake2 M a e c = _ from if_pos ⟨by omega, by omega⟩] at hQ; exact hQ) | (rw [show mTake M a e c = up2 (mTake3 M a e c) a 10 1 from if_pos (by omega), mTake3, show mTake2 M a e c = mTake1 M a e c from if_neg (by omega)] at hQ; exact hQ) | (rw [show mTake M a e c = mTake3 M a e c from if_neg (by omega), mTake3, show mTake2 M a e c = _ from if_pos ⟨by omega, by omega⟩] at hQ; exact hQ) | (rw [show mTake M a e c = mTake3 M a e c from if_neg (by omega), mTake3, show mTake2 M a e c = mTake1 M a e c from if_neg (by omega)] at hQ; exact hQ)
      · exact absurd c3 (by omega)

