/-! ===== the reference: probate ===== -/
theorem ov2_s {M : inm} {k : Nat} {f g : Nat → Int} {y z : Int} (h1 : y = f k) (h2 : z = g k) : up2 (up2 (ov (ov M 280 k f) 281 k g) 280 k y) 281 k z = ov (ov M 280 (k + 1) f) 281 (k + 1) g := by
  have e : up2 (ov (ov M 280 k f) 281 k g) 280 k y = ov (ov M 280 (k + 1) f) 281 k g := by
    rw [← ov_s (M := M) (A := 280) (k := k) (f := f) h1]
    funext x j
    unfold up2 ov
    by_cases h3 : x = 280 ∧ j = k
    · rw [if_pos h3, if_neg (by omega)]
      exact (if_pos h3).symm
    · rw [if_neg h3]
      by_cases h4 : x = 281 ∧ j < k
      · rw [if_pos h4, if_pos h4]
      · rw [if_neg h4, if_neg h4]
        exact (if_neg h3).symm
  rw [e, ov_s h2]
def rT4 (B : inm) (L : Nat) : inm := up2 (ovo (ovo B 284 1 L (fun j => B 291 j)) 284 13 L (fun j => B 292 j)) 284 27 (if L = 0 then B 279 1 else 0)
def rT3 (B : inm) (L : Nat) : inm := rT4 (up2 (rEmp B) 284 0 (L : Int)) L
def rT2 (B : inm) (L : Nat) : inm := rT3 (ov B 283 48 (fun j => B 296 j)) L
def rT1 (B : inm) (L : Nat) : inm := rT2 (ov B 282 6 (fun j => B 295 j)) L
def rTR (B : inm) (L : Nat) : inm := rT1 (ov (ov B 280 5 (fun j => B 293 j)) 281 5 (fun j => B 294 j)) L
def rT0 (M : inm) (md : Int) (E Y : Nat) : inm := up2 (up2 (up2 (up2 M 279 0 (if md < 0 then 0 else 1)) 279 1 (if md < 0 then 0 else md)) 279 2 (E : Int)) 279 5 (Y : Int)
theorem rEmp_out {M : inm} {x j : Nat} (h : x ≠ 284) : rEmp M x j = M x j := by
  unfold rEmp
  rw [up2_ne (by omega), ov_out (by omega)]
set_option maxHeartbeats 4000000 in
set_option maxRecDepth 100000 in
theorem lp_X10_takeRead156 {w L : Nat} {B : inm} {Q : Nat → rfm → inm → Prop} (hB : B 279 24 = (L : Int) ∧ L ≤ 12) (hQ : Q 303 (PP w) (rT4 B L)) : ∀ (d k : Nat), L < k + d → k ≤ L → Go S0 yX10_takeRead cX10_takeRead 2 1 0 0 none 156 [(1, vI ((k : Nat) : Int)), (0, vR 279)] [] 303 (PP w) (ovo (ovo B 284 1 k (fun j => B 291 j)) 284 13 k (fun j => B 292 j)) (fun v n P M => v = none ∧ Q n P M) := by
  have hL12 := hB.2
  intro d
  induction d with
  | zero => intro k h1 h2; exfalso; omega
  | succ d ih =>
    intro k h1 h2
    refine go_iload_n 0 dX10_takeRead_156 rfl rfl ?_
    refine go_aload_n 1 dX10_takeRead_157 rfl rfl ?_
    refine gx_getI (v := ((L : Nat) : Int)) dX10_takeRead_158 lk10_128.get kd_279 (by omega) rfl ((((ovo_out (by omega)).trans (ovo_out (by omega))).trans hB.1)) ?_
    refine go_icmp_ge (tgt := 199) dX10_takeRead_161 rfl (fun c1 => ?_) (fun c1 => ?_)
    · have hkL : k = L := by omega
      rw [hkL]
      refine go_lv [1] rfl ?_
      refine go_aload_n 0 dX10_takeRead_199 rfl rfl ?_
      refine go_getR (r := 284) dX10_takeRead_200 lk10_22.get kd_279 (by omega) rfl (pp_279_8 w) ?_
      refine go_bipush dX10_takeRead_203 (by decide) (by decide) ?_
      refine go_aload_n 0 dX10_takeRead_205 rfl rfl ?_
      refine gx_getI (v := ((L : Nat) : Int)) dX10_takeRead_206 lk10_128.get kd_279 (by omega) rfl ((((ovo_out (by omega)).trans (ovo_out (by omega))).trans hB.1)) ?_
      refine go_if_ne (tgt := 219) dX10_takeRead_209 rfl (fun c52 => ?_) (fun c52 => ?_)
      · refine go_iconst dX10_takeRead_219 (by decide) ?_
        refine gx_iastore 27 dX10_takeRead_220 kd_284 (by omega) ln_284 (by omega) (by omega) ?_
        refine go_ret dX10_takeRead_221 rfl ⟨rfl, ?_⟩
        unfold rT4 at hQ
        first | (rw [if_pos (by omega)] at hQ; exact hQ) | (rw [if_neg (by omega)] at hQ; exact hQ)
      · refine go_aload_n 0 dX10_takeRead_212 rfl rfl ?_
        refine gx_getI (v := (B 279 1)) dX10_takeRead_213 lk10_161.get kd_279 (by omega) rfl (((ovo_out (by omega)).trans (ovo_out (by omega)))) ?_
        refine go_goto (tgt := 220) dX10_takeRead_216 rfl ?_
        refine gx_iastore 27 dX10_takeRead_220 kd_284 (by omega) ln_284 (by omega) (by omega) ?_
        refine go_ret dX10_takeRead_221 rfl ⟨rfl, ?_⟩
        unfold rT4 at hQ
        first | (rw [if_pos (by omega)] at hQ; exact hQ) | (rw [if_neg (by omega)] at hQ; exact hQ)
    · refine go_aload_n 1 dX10_takeRead_164 rfl rfl ?_
      refine go_getR (r := 284) dX10_takeRead_165 lk10_22.get kd_279 (by omega) rfl (pp_279_8 w) ?_
      refine go_iconst dX10_takeRead_168 (by decide) ?_
      refine go_iload_n 0 dX10_takeRead_169 rfl rfl ?_
      refine gx_iadd (v := ((k + 1 : Nat) : Int)) dX10_takeRead_170 (by omega) ⟨by omega, by omega⟩ ?_
      refine go_aload_n 1 dX10_takeRead_171 rfl rfl ?_
      refine go_getR (r := 291) dX10_takeRead_172 lk10_47.get kd_279 (by omega) rfl (pp_279_25 w) ?_
      refine go_iload_n 0 dX10_takeRead_175 rfl rfl ?_
      refine gx_iaload (v := (B 291 k)) k dX10_takeRead_176 kd_291 (by omega) ln_291 rfl (by omega) (((ovo_out (by omega)).trans (ovo_out (by omega)))) ?_
      refine gx_iastore (k + 1) dX10_takeRead_177 kd_284 (by omega) ln_284 rfl (by omega) ?_
      refine go_aload_n 1 dX10_takeRead_178 rfl rfl ?_
      refine go_getR (r := 284) dX10_takeRead_179 lk10_22.get kd_279 (by omega) rfl (pp_279_8 w) ?_
      refine go_bipush dX10_takeRead_182 (by decide) (by decide) ?_
      refine go_iload_n 0 dX10_takeRead_184 rfl rfl ?_
      refine gx_iadd (v := ((k + 13 : Nat) : Int)) dX10_takeRead_185 (by omega) ⟨by omega, by omega⟩ ?_
      refine go_aload_n 1 dX10_takeRead_186 rfl rfl ?_
      refine go_getR (r := 292) dX10_takeRead_187 lk10_50.get kd_279 (by omega) rfl (pp_279_26 w) ?_
      refine go_iload_n 0 dX10_takeRead_190 rfl rfl ?_
      refine gx_iaload (v := (B 292 k)) k dX10_takeRead_191 kd_292 (by omega) ln_292 rfl (by omega) ((up2_ne (by omega)).trans (((ovo_out (by omega)).trans (ovo_out (by omega))))) ?_
      refine gx_iastore (k + 13) dX10_takeRead_192 kd_284 (by omega) ln_284 rfl (by omega) ?_
      refine gx_iinc (v := ((k + 1 : Nat) : Int)) (lv' := [(1, vI ((k + 1 : Nat) : Int)), (0, vR 279)]) 0 dX10_takeRead_193 rfl (by omega) ⟨by omega, by omega⟩ (by decide) rfl ?_
      refine go_goto (tgt := 156) dX10_takeRead_196 rfl ?_
      have e2 : (up2 (up2 (ovo (ovo B 284 1 k (fun j => B 291 j)) 284 13 k (fun j => B 292 j)) 284 (k + 1) (B 291 k)) 284 (k + 13) (B 292 k)) = (ovo (ovo B 284 1 (k + 1) (fun j => B 291 j)) 284 13 (k + 1) (fun j => B 292 j)) := by exact ovo2_s (by omega) rfl rfl
      rw [e2]
      exact ih (k + 1) (by omega) (by omega)

set_option maxHeartbeats 4000000 in
set_option maxRecDepth 100000 in
theorem lp_X10_takeRead116 {w L : Nat} {B : inm} {Q : Nat → rfm → inm → Prop} (hB : B 279 24 = (L : Int) ∧ L ≤ 12) (hQ : Q 303 (PP w) (rT2 B L)) : ∀ (d k : Nat), 48 < k + d → k ≤ 48 → Go S0 yX10_takeRead cX10_takeRead 2 1 0 0 none 116 [(1, vI ((k : Nat) : Int)), (0, vR 279)] [] 303 (PP w) (ov B 283 k (fun j => B 296 j)) (fun v n P M => v = none ∧ Q n P M) := by
  intro d
  induction d with
  | zero => intro k h1 h2; exfalso; omega
  | succ d ih =>
    intro k h1 h2
    refine go_iload_n 0 dX10_takeRead_116 rfl rfl ?_
    refine go_bipush dX10_takeRead_117 (by decide) (by decide) ?_
    refine go_icmp_ge (tgt := 140) dX10_takeRead_119 rfl (fun c1 => ?_) (fun c1 => ?_)
    · have hk48 : k = 48 := by omega
      subst hk48
      refine go_lv [1] rfl ?_
      refine go_aload_n 0 dX10_takeRead_140 rfl rfl ?_
      refine go_callVV (av := []) (st := []) (a := 279) (mc2 := 0) (ms2 := 0) dX10_takeRead_141 cw10_84 (by decide) rfl rfl (Nat.le_of_ble_eq_true rfl) rfl rfl kd_279 ⟨_, _, rfl⟩ (by decide) (by omega) (ok_X10_empties ?_)
      refine go_aload_n 0 dX10_takeRead_144 rfl rfl ?_
      refine go_getR (r := 284) dX10_takeRead_145 lk10_22.get kd_279 (by omega) rfl (pp_279_8 w) ?_
      refine go_iconst dX10_takeRead_148 (by decide) ?_
      refine go_aload_n 0 dX10_takeRead_149 rfl rfl ?_
      refine gx_getI (v := ((L : Nat) : Int)) dX10_takeRead_150 lk10_128.get kd_279 (by omega) rfl (((rEmp_out (by omega)).trans ((ov_out (by omega)).trans hB.1))) ?_
      refine gx_iastore 0 dX10_takeRead_153 kd_284 (by omega) ln_284 (by omega) (by omega) ?_
      refine go_iconst dX10_takeRead_154 (by decide) ?_
      refine go_istore_n (lv' := [(1, vI 0), (0, vR 279)]) dX10_takeRead_155 rfl (by decide) rfl ?_
      refine go_lv [0, 1] rfl ?_
      refine go_m (M' := ovo (ovo (up2 (rEmp (ov B 283 48 (fun j => B 296 j))) 284 0 (L : Int)) 284 1 0 (fun j => (up2 (rEmp (ov B 283 48 (fun j => B 296 j))) 284 0 (L : Int)) 291 j)) 284 13 0 (fun j => (up2 (rEmp (ov B 283 48 (fun j => B 296 j))) 284 0 (L : Int)) 292 j)) ((ovo_0.trans ovo_0).symm) ?_
      exact lp_X10_takeRead156 (B := up2 (rEmp (ov B 283 48 (fun j => B 296 j))) 284 0 (L : Int)) ⟨(up2_ne (by omega)).trans ((rEmp_out (by omega)).trans ((ov_out (by omega)).trans hB.1)), hB.2⟩ hQ (L + 1) 0 (by omega) (by omega)
    · refine go_aload_n 1 dX10_takeRead_122 rfl rfl ?_
      refine go_getR (r := 283) dX10_takeRead_123 lk10_19.get kd_279 (by omega) rfl (pp_279_7 w) ?_
      refine go_iload_n 0 dX10_takeRead_126 rfl rfl ?_
      refine go_aload_n 1 dX10_takeRead_127 rfl rfl ?_
      refine go_getR (r := 296) dX10_takeRead_128 lk10_62.get kd_279 (by omega) rfl (pp_279_32 w) ?_
      refine go_iload_n 0 dX10_takeRead_131 rfl rfl ?_
      refine gx_iaload (v := (B 296 k)) k dX10_takeRead_132 kd_296 (by omega) ln_296 rfl (by omega) ((ov_out (by omega))) ?_
      refine gx_iastore k dX10_takeRead_133 kd_283 (by omega) ln_283 rfl (by omega) ?_
      refine gx_iinc (v := ((k + 1 : Nat) : Int)) (lv' := [(1, vI ((k + 1 : Nat) : Int)), (0, vR 279)]) 0 dX10_takeRead_134 rfl (by omega) ⟨by omega, by omega⟩ (by decide) rfl ?_
      refine go_goto (tgt := 116) dX10_takeRead_137 rfl ?_
      have e2 : (up2 (ov B 283 k (fun j => B 296 j)) 283 k (B 296 k)) = (ov B 283 (k + 1) (fun j => B 296 j)) := by exact ov_s rfl
      rw [e2]
      exact ih (k + 1) (by omega) (by omega)

set_option maxHeartbeats 4000000 in
set_option maxRecDepth 100000 in
theorem lp_X10_takeRead90 {w L : Nat} {B : inm} {Q : Nat → rfm → inm → Prop} (hB : B 279 24 = (L : Int) ∧ L ≤ 12) (hQ : Q 303 (PP w) (rT1 B L)) : ∀ (d k : Nat), 6 < k + d → k ≤ 6 → Go S0 yX10_takeRead cX10_takeRead 2 1 0 0 none 90 [(1, vI ((k : Nat) : Int)), (0, vR 279)] [] 303 (PP w) (ov B 282 k (fun j => B 295 j)) (fun v n P M => v = none ∧ Q n P M) := by
  intro d
  induction d with
  | zero => intro k h1 h2; exfalso; omega
  | succ d ih =>
    intro k h1 h2
    refine go_iload_n 0 dX10_takeRead_90 rfl rfl ?_
    refine go_bipush dX10_takeRead_91 (by decide) (by decide) ?_
    refine go_icmp_ge (tgt := 114) dX10_takeRead_93 rfl (fun c1 => ?_) (fun c1 => ?_)
    · refine go_iconst dX10_takeRead_114 (by decide) ?_
      refine go_istore_n (lv' := [(1, vI 0), (0, vR 279)]) dX10_takeRead_115 rfl (by decide) rfl ?_
      have hk6 : k = 6 := by omega
      subst hk6
      refine go_lv [0, 1] rfl ?_
      refine go_m (M' := ov (ov B 282 6 (fun j => B 295 j)) 283 0 (fun j => (ov B 282 6 (fun j => B 295 j)) 296 j)) ov_0.symm ?_
      exact lp_X10_takeRead116 (B := (ov B 282 6 (fun j => B 295 j))) ⟨(ov_out (by omega)).trans hB.1, hB.2⟩ hQ 49 0 (by omega) (by omega)
    · refine go_aload_n 1 dX10_takeRead_96 rfl rfl ?_
      refine go_getR (r := 282) dX10_takeRead_97 lk10_16.get kd_279 (by omega) rfl (pp_279_6 w) ?_
      refine go_iload_n 0 dX10_takeRead_100 rfl rfl ?_
      refine go_aload_n 1 dX10_takeRead_101 rfl rfl ?_
      refine go_getR (r := 295) dX10_takeRead_102 lk10_59.get kd_279 (by omega) rfl (pp_279_31 w) ?_
      refine go_iload_n 0 dX10_takeRead_105 rfl rfl ?_
      refine gx_iaload (v := (B 295 k)) k dX10_takeRead_106 kd_295 (by omega) ln_295 rfl (by omega) ((ov_out (by omega))) ?_
      refine gx_iastore k dX10_takeRead_107 kd_282 (by omega) ln_282 rfl (by omega) ?_
      refine gx_iinc (v := ((k + 1 : Nat) : Int)) (lv' := [(1, vI ((k + 1 : Nat) : Int)), (0, vR 279)]) 0 dX10_takeRead_108 rfl (by omega) ⟨by omega, by omega⟩ (by decide) rfl ?_
      refine go_goto (tgt := 90) dX10_takeRead_111 rfl ?_
      have e2 : (up2 (ov B 282 k (fun j => B 295 j)) 282 k (B 295 k)) = (ov B 282 (k + 1) (fun j => B 295 j)) := by exact ov_s rfl
      rw [e2]
      exact ih (k + 1) (by omega) (by omega)

set_option maxHeartbeats 4000000 in
set_option maxRecDepth 100000 in
theorem lp_X10_takeRead53 {w L : Nat} {B : inm} {Q : Nat → rfm → inm → Prop} (hB : B 279 24 = (L : Int) ∧ L ≤ 12) (hQ : Q 303 (PP w) (rTR B L)) : ∀ (d k : Nat), 5 < k + d → k ≤ 5 → Go S0 yX10_takeRead cX10_takeRead 2 1 0 0 none 53 [(1, vI ((k : Nat) : Int)), (0, vR 279)] [] 303 (PP w) (ov (ov B 280 k (fun j => B 293 j)) 281 k (fun j => B 294 j)) (fun v n P M => v = none ∧ Q n P M) := by
  intro d
  induction d with
  | zero => intro k h1 h2; exfalso; omega
  | succ d ih =>
    intro k h1 h2
    refine go_iload_n 0 dX10_takeRead_53 rfl rfl ?_
    refine go_iconst dX10_takeRead_54 (by decide) ?_
    refine go_icmp_ge (tgt := 88) dX10_takeRead_55 rfl (fun c1 => ?_) (fun c1 => ?_)
    · refine go_iconst dX10_takeRead_88 (by decide) ?_
      refine go_istore_n (lv' := [(1, vI 0), (0, vR 279)]) dX10_takeRead_89 rfl (by decide) rfl ?_
      have hk5 : k = 5 := by omega
      subst hk5
      refine go_lv [0, 1] rfl ?_
      refine go_m (M' := ov (ov (ov B 280 5 (fun j => B 293 j)) 281 5 (fun j => B 294 j)) 282 0 (fun j => (ov (ov B 280 5 (fun j => B 293 j)) 281 5 (fun j => B 294 j)) 295 j)) ov_0.symm ?_
      exact lp_X10_takeRead90 (B := (ov (ov B 280 5 (fun j => B 293 j)) 281 5 (fun j => B 294 j))) ⟨((ov_out (by omega)).trans (ov_out (by omega))).trans hB.1, hB.2⟩ hQ 7 0 (by omega) (by omega)
    · refine go_aload_n 1 dX10_takeRead_58 rfl rfl ?_
      refine go_getR (r := 280) dX10_takeRead_59 lk10_7.get kd_279 (by omega) rfl (pp_279_3 w) ?_
      refine go_iload_n 0 dX10_takeRead_62 rfl rfl ?_
      refine go_aload_n 1 dX10_takeRead_63 rfl rfl ?_
      refine go_getR (r := 293) dX10_takeRead_64 lk10_53.get kd_279 (by omega) rfl (pp_279_28 w) ?_
      refine go_iload_n 0 dX10_takeRead_67 rfl rfl ?_
      refine gx_iaload (v := (B 293 k)) k dX10_takeRead_68 kd_293 (by omega) ln_293 rfl (by omega) (((ov_out (by omega)).trans (ov_out (by omega)))) ?_
      refine gx_iastore k dX10_takeRead_69 kd_280 (by omega) ln_280 rfl (by omega) ?_
      refine go_aload_n 1 dX10_takeRead_70 rfl rfl ?_
      refine go_getR (r := 281) dX10_takeRead_71 lk10_13.get kd_279 (by omega) rfl (pp_279_4 w) ?_
      refine go_iload_n 0 dX10_takeRead_74 rfl rfl ?_
      refine go_aload_n 1 dX10_takeRead_75 rfl rfl ?_
      refine go_getR (r := 294) dX10_takeRead_76 lk10_56.get kd_279 (by omega) rfl (pp_279_29 w) ?_
      refine go_iload_n 0 dX10_takeRead_79 rfl rfl ?_
      refine gx_iaload (v := (B 294 k)) k dX10_takeRead_80 kd_294 (by omega) ln_294 rfl (by omega) ((up2_ne (by omega)).trans (((ov_out (by omega)).trans (ov_out (by omega))))) ?_
      refine gx_iastore k dX10_takeRead_81 kd_281 (by omega) ln_281 rfl (by omega) ?_
      refine gx_iinc (v := ((k + 1 : Nat) : Int)) (lv' := [(1, vI ((k + 1 : Nat) : Int)), (0, vR 279)]) 0 dX10_takeRead_82 rfl (by omega) ⟨by omega, by omega⟩ (by decide) rfl ?_
      refine go_goto (tgt := 53) dX10_takeRead_85 rfl ?_
      have e2 : (up2 (up2 (ov (ov B 280 k (fun j => B 293 j)) 281 k (fun j => B 294 j)) 280 k (B 293 k)) 281 k (B 294 k)) = (ov (ov B 280 (k + 1) (fun j => B 293 j)) 281 (k + 1) (fun j => B 294 j)) := by exact ov2_s rfl rfl
      rw [e2]
      exact ih (k + 1) (by omega) (by omega)

set_option maxHeartbeats 4000000 in
set_option maxRecDepth 100000 in
theorem ok_X10_takeRead {w L E Y : Nat} {md : Int} {M : inm} {Q : Nat → rfm → inm → Prop} (hmd : M 279 23 = md) (hL : M 279 24 = (L : Int) ∧ L ≤ 12) (hE : M 279 27 = (E : Int)) (hY : M 279 30 = (Y : Int)) (hQ : Q 303 (PP w) (rTR (rT0 M md E Y) L)) : OkV yX10_takeRead cX10_takeRead 2 1 0 0 [vR 279] 303 (PP w) M Q := by
  refine OkV.of (by decide +kernel) (by decide +kernel) (Nat.le_of_ble_eq_true rfl) ?_
  refine go_eq (lv' := [(0, vR 279)]) rfl rfl rfl rfl rfl ?_
  refine go_aload_n 0 dX10_takeRead_0 rfl rfl ?_
  refine go_aload_n 0 dX10_takeRead_1 rfl rfl ?_
  refine gx_getI (v := md) dX10_takeRead_2 lk10_125.get kd_279 (by omega) rfl hmd ?_
  refine go_if_lt (tgt := 12) dX10_takeRead_5 rfl (fun c1 => ?_) (fun c1 => ?_)
  · refine go_iconst dX10_takeRead_12 (by decide) ?_
    refine go_putZ dX10_takeRead_13 (Or.inl lk10_157) kd_279 (by omega) rfl (Or.inl rfl) (by decide) ?_
    refine go_aload_n 0 dX10_takeRead_16 rfl rfl ?_
    refine go_aload_n 0 dX10_takeRead_17 rfl rfl ?_
    refine gx_getI (v := 0) dX10_takeRead_18 lk10_157.get kd_279 (by omega) rfl up2_same ?_
    refine go_if_eq (tgt := 31) dX10_takeRead_21 rfl (fun c2 => ?_) (fun c2 => ?_)
    · refine go_iconst dX10_takeRead_31 (by decide) ?_
      refine go_putI dX10_takeRead_32 (Or.inl lk10_161) kd_279 (by omega) rfl (Or.inl rfl) ?_
      refine go_aload_n 0 dX10_takeRead_35 rfl rfl ?_
      refine go_aload_n 0 dX10_takeRead_36 rfl rfl ?_
      refine gx_getI (v := ((E : Nat) : Int)) dX10_takeRead_37 lk10_131.get kd_279 (by omega) rfl ((up2_ne (by omega)).trans ((up2_ne (by omega)).trans hE)) ?_
      refine go_putI dX10_takeRead_40 (Or.inl lk10_91) kd_279 (by omega) rfl (Or.inl rfl) ?_
      refine go_aload_n 0 dX10_takeRead_43 rfl rfl ?_
      refine go_aload_n 0 dX10_takeRead_44 rfl rfl ?_
      refine gx_getI (v := ((Y : Nat) : Int)) dX10_takeRead_45 lk10_134.get kd_279 (by omega) rfl ((up2_ne (by omega)).trans ((up2_ne (by omega)).trans ((up2_ne (by omega)).trans hY))) ?_
      refine go_putI dX10_takeRead_48 (Or.inl lk10_164) kd_279 (by omega) rfl (Or.inl rfl) ?_
      refine go_iconst dX10_takeRead_51 (by decide) ?_
      refine go_istore_n (lv' := [(1, vI 0), (0, vR 279)]) dX10_takeRead_52 rfl (by decide) rfl ?_
      refine go_lv [0, 1] rfl ?_
      have he : (up2 (up2 (up2 (up2 M 279 0 0) 279 1 0) 279 2 ((E : Nat) : Int)) 279 5 ((Y : Nat) : Int)) = (rT0 M md E Y) := by unfold rT0; first | (rw [if_pos (by omega), if_pos (by omega)]; done) | (rw [if_neg (by omega), if_neg (by omega)]; done)
      refine go_m (M' := ov (ov (rT0 M md E Y) 280 0 (fun j => (rT0 M md E Y) 293 j)) 281 0 (fun j => (rT0 M md E Y) 294 j)) (he.trans (ov_0.trans ov_0).symm) ?_
      exact lp_X10_takeRead53 (B := (rT0 M md E Y)) ⟨(up2_ne (by omega)).trans ((up2_ne (by omega)).trans ((up2_ne (by omega)).trans ((up2_ne (by omega)).trans hL.1))), hL.2⟩ hQ 6 0 (by omega) (by omega)
    · exact absurd c2 (by decide)
  · refine go_iconst dX10_takeRead_8 (by decide) ?_
    refine go_goto (tgt := 13) dX10_takeRead_9 rfl ?_
    refine go_putZ dX10_takeRead_13 (Or.inl lk10_157) kd_279 (by omega) rfl (Or.inl rfl) (by decide) ?_
    refine go_aload_n 0 dX10_takeRead_16 rfl rfl ?_
    refine go_aload_n 0 dX10_takeRead_17 rfl rfl ?_
    refine gx_getI (v := 1) dX10_takeRead_18 lk10_157.get kd_279 (by omega) rfl up2_same ?_
    refine go_if_eq (tgt := 31) dX10_takeRead_21 rfl (fun c3 => ?_) (fun c3 => ?_)
    · exact absurd c3 (by decide)
    · refine go_aload_n 0 dX10_takeRead_24 rfl rfl ?_
      refine gx_getI (v := md) dX10_takeRead_25 lk10_125.get kd_279 (by omega) rfl ((up2_ne (by omega)).trans hmd) ?_
      refine go_goto (tgt := 32) dX10_takeRead_28 rfl ?_
      refine go_putI dX10_takeRead_32 (Or.inl lk10_161) kd_279 (by omega) rfl (Or.inl rfl) ?_
      refine go_aload_n 0 dX10_takeRead_35 rfl rfl ?_
      refine go_aload_n 0 dX10_takeRead_36 rfl rfl ?_
      refine gx_getI (v := ((E : Nat) : Int)) dX10_takeRead_37 lk10_131.get kd_279 (by omega) rfl ((up2_ne (by omega)).trans ((up2_ne (by omega)).trans hE)) ?_
      refine go_putI dX10_takeRead_40 (Or.inl lk10_91) kd_279 (by omega) rfl (Or.inl rfl) ?_
      refine go_aload_n 0 dX10_takeRead_43 rfl rfl ?_
      refine go_aload_n 0 dX10_takeRead_44 rfl rfl ?_
      refine gx_getI (v := ((Y : Nat) : Int)) dX10_takeRead_45 lk10_134.get kd_279 (by omega) rfl ((up2_ne (by omega)).trans ((up2_ne (by omega)).trans ((up2_ne (by omega)).trans hY))) ?_
      refine go_putI dX10_takeRead_48 (Or.inl lk10_164) kd_279 (by omega) rfl (Or.inl rfl) ?_
      refine go_iconst dX10_takeRead_51 (by decide) ?_
      refine go_istore_n (lv' := [(1, vI 0), (0, vR 279)]) dX10_takeRead_52 rfl (by decide) rfl ?_
      refine go_lv [0, 1] rfl ?_
      have he : (up2 (up2 (up2 (up2 M 279 0 1) 279 1 md) 279 2 ((E : Nat) : Int)) 279 5 ((Y : Nat) : Int)) = (rT0 M md E Y) := by unfold rT0; first | (rw [if_pos (by omega), if_pos (by omega)]; done) | (rw [if_neg (by omega), if_neg (by omega)]; done)
      refine go_m (M' := ov (ov (rT0 M md E Y) 280 0 (fun j => (rT0 M md E Y) 293 j)) 281 0 (fun j => (rT0 M md E Y) 294 j)) (he.trans (ov_0.trans ov_0).symm) ?_
      exact lp_X10_takeRead53 (B := (rT0 M md E Y)) ⟨(up2_ne (by omega)).trans ((up2_ne (by omega)).trans ((up2_ne (by omega)).trans ((up2_ne (by omega)).trans hL.1))), hL.2⟩ hQ 6 0 (by omega) (by omega)

def rPr (M : inm) : inm := up2 (up2 (up2 (up2 (up2 M 279 13 0) 279 10 0) 279 33 0) 302 0 0) 302 1 0
def rPb0 (M : inm) : inm := up2 (up2 (up2 (up2 (up2 (up2 M 279 19 (-1)) 279 20 0) 279 23 (-1)) 279 24 0) 279 27 0) 279 30 0
set_option maxHeartbeats 4000000 in
set_option maxRecDepth 100000 in
theorem lp_X10_probate {w n : Nat} {T : Nat → Int} {Q : Int → Nat → rfm → inm → Prop} (h240 : n ≤ 240) (ht : ∀ j, j < n → 0 ≤ T j ∧ T j ≤ 255) (J : Nat → inm → Prop) (hJ : ∀ k M', J k M' → M' 279 18 = (n : Int) ∧ (fun j => M' 290 j) = T ∧ ∃ p : Nat, M' 279 20 = (p : Int) ∧ p ≤ n ∧ k ≤ p) (hstep : ∀ k M' (p : Nat), J k M' → M' 279 20 = (p : Int) → p ≤ n → skp T n p < n → ∃ (md : Int) (L E Y : Nat), M' 279 23 = md ∧ (M' 279 24 = (L : Int) ∧ L ≤ 12) ∧ (M' 279 27 = (E : Int) ∧ E ≤ 5) ∧ (M' 279 30 = (Y : Int) ∧ Y ≤ 6) ∧ (¬ clF T n (skp T n p) md L E Y = 0 → 1 ≤ clF T n (skp T n p) md L E Y ∧ clF T n (skp T n p) md L E Y ≤ 3 ∧ ∀ M2 : inm, Fr (up2 M' 279 20 ((skp T n p : Nat) : Int)) M2 → M2 279 19 = ((clP T n (skp T n p) md L E Y : Nat) : Int) → Q (-10 - clF T n (skp T n p) md L E Y) 303 (PP w) (up2 M2 279 18 0)) ∧ (clF T n (skp T n p) md L E Y = 0 → ∀ M2 : inm, DS (up2 (up2 M' 279 20 ((skp T n p : Nat) : Int)) 279 20 ((skp T n p + 1 : Nat) : Int)) M2 T n (skp T n p + 1) (T (skp T n p)) L E Y → J (k + 1) (up2 M2 279 20 ((bdE T n (skp T n p + 1) (T (skp T n p)) + 1 : Nat) : Int)))) (hend : ∀ k M' (p : Nat), J k M' → M' 279 20 = (p : Int) → ¬ skp T n p < n → ∃ (md : Int) (L E Y : Nat), M' 279 23 = md ∧ (M' 279 24 = (L : Int) ∧ L ≤ 12) ∧ M' 279 27 = (E : Int) ∧ M' 279 30 = (Y : Int) ∧ Q (rPr (rTR (rT0 (up2 (up2 M' 279 20 ((skp T n p : Nat) : Int)) 279 18 0) md E Y) L) 284 0) 303 (PP w) (rPr (rTR (rT0 (up2 (up2 M' 279 20 ((skp T n p : Nat) : Int)) 279 18 0) md E Y) L))) : ∀ d k, n < k + d → ∀ M' : inm, J k M' → Go S0 yX10_probate cX10_probate 2 5 0 0 (some .int) 32 [(1, vI 0), (0, vR 279)] [] 303 (PP w) M' (fun v n P M => ∃ z, v = some (vI z) ∧ Q z n P M) := by
  intro d
  induction d with
  | zero => intro k h1 M' hJk; obtain ⟨_, _, p, _, h3, h4⟩ := hJ k M' hJk; exfalso; omega
  | succ d ih =>
    intro k h1 M' hJk
    obtain ⟨hn, hT, p, hp, hpn, hkp⟩ := hJ k M' hJk
    refine go_iload_n 0 dX10_probate_32 rfl rfl ?_
    refine go_if_ne (tgt := 51) dX10_probate_33 rfl (fun c1 => ?_) (fun c1 => ?_)
    · exact absurd c1 (by decide)
    · refine go_aload_n 1 dX10_probate_36 rfl rfl ?_
      refine go_callVI (av := []) (st := []) (a := 279) (mc2 := 0) (ms2 := 0) dX10_probate_37 cw10_104 (by decide) rfl rfl (Nat.le_of_ble_eq_true rfl) rfl rfl kd_279 ⟨_, _, rfl⟩ (by decide) (by omega) (here_T (n := n) (p := p) (T := T) (M := M') hT hn hp h240 hpn (fun q1 => ?_) (fun q0 => ?_))
      · have hsi := skp_in (T := T) hpn
        have hcc := ht (skp T n p) q1
        obtain ⟨md, L, E, Y, hmd, hL, hE, hY, gF, gS⟩ := hstep k M' p hJk hp hpn q1
        refine go_if_lt (tgt := 51) dX10_probate_40 rfl (fun c2 => ?_) (fun c2 => ?_)
        · exact absurd c2 (by omega)
        · refine go_aload_n 1 dX10_probate_43 rfl rfl ?_
          refine go_callVI (av := []) (st := []) (a := 279) (mc2 := 0) (ms2 := 0) dX10_probate_44 cw10_167 (by decide) rfl rfl (Nat.le_of_ble_eq_true rfl) rfl rfl kd_279 ⟨_, _, rfl⟩ (by decide) (by omega) (ok_X10_takeClause (n := n) (p := skp T n p) (L := L) (E := E) (Y := Y) (md := md) (T := T) (M := (up2 M' 279 20 ((skp T n p : Nat) : Int))) ((funext (fun j => up2_ne (by omega))).trans hT) ((up2_ne (by omega)).trans hn) up2_same h240 hsi.2 ht ((up2_ne (by omega)).trans hmd) ⟨(up2_ne (by omega)).trans hL.1, hL.2⟩ ⟨(up2_ne (by omega)).trans hE.1, hE.2⟩ ⟨(up2_ne (by omega)).trans hY.1, hY.2⟩ q1 (fun e => skp_end ⟨q1, e⟩) (fun hf M2 hfr h19 => ?_) (fun hf M2 hds => ?_))
          · obtain ⟨gF1, gF2, gF3⟩ := gF hf
            refine go_istore_n (lv' := [(1, vI (clF T n (skp T n p) md L E Y)), (0, vR 279)]) dX10_probate_47 rfl (by decide) rfl ?_
            refine go_goto (tgt := 32) dX10_probate_48 rfl ?_
            refine go_iload_n 0 dX10_probate_32 rfl rfl ?_
            refine go_if_ne (tgt := 51) dX10_probate_33 rfl (fun c3 => ?_) (fun c3 => ?_)
            · refine go_aload_n 1 dX10_probate_51 rfl rfl ?_
              refine go_iconst dX10_probate_52 (by decide) ?_
              refine go_putI dX10_probate_53 (Or.inl lk10_97) kd_279 (by omega) rfl (Or.inl rfl) ?_
              refine go_iload_n 0 dX10_probate_56 rfl rfl ?_
              refine go_if_le (tgt := 65) dX10_probate_57 rfl (fun c4 => ?_) (fun c4 => ?_)
              · exact absurd c4 (by omega)
              · refine go_bipush dX10_probate_60 (by decide) (by decide) ?_
                refine go_iload_n 0 dX10_probate_62 rfl rfl ?_
                refine gx_isub (v := ((-10) - (clF T n (skp T n p) md L E Y))) dX10_probate_63 rfl ⟨by omega, by omega⟩ ?_
                refine go_iret dX10_probate_64 rfl rfl ⟨_, rfl, ?_⟩
                exact gF3 M2 hfr h19
            · exact absurd c3 (by omega)
          · have hJ2 := gS hf M2 hds
            refine go_istore_n (lv' := [(1, vI 0), (0, vR 279)]) dX10_probate_47 rfl (by decide) rfl ?_
            refine go_goto (tgt := 32) dX10_probate_48 rfl ?_
            refine go_lv [0, 1] rfl ?_
            exact ih (k + 1) (by omega) _ hJ2
      · obtain ⟨md, L, E, Y, hmd, hL, hE, hY, hQ⟩ := hend k M' p hJk hp q0
        refine go_if_lt (tgt := 51) dX10_probate_40 rfl (fun c5 => ?_) (fun c5 => ?_)
        · refine go_aload_n 1 dX10_probate_51 rfl rfl ?_
          refine go_iconst dX10_probate_52 (by decide) ?_
          refine go_putI dX10_probate_53 (Or.inl lk10_97) kd_279 (by omega) rfl (Or.inl rfl) ?_
          refine go_iload_n 0 dX10_probate_56 rfl rfl ?_
          refine go_if_le (tgt := 65) dX10_probate_57 rfl (fun c6 => ?_) (fun c6 => ?_)
          · refine go_aload_n 1 dX10_probate_65 rfl rfl ?_
            refine go_callVV (av := []) (st := []) (a := 279) (mc2 := 0) (ms2 := 0) dX10_probate_66 cw10_170 (by decide) rfl rfl (Nat.le_of_ble_eq_true rfl) rfl rfl kd_279 ⟨_, _, rfl⟩ (by decide) (by omega) (ok_X10_takeRead (L := L) (E := E) (Y := Y) (md := md) (M := (up2 (up2 M' 279 20 ((skp T n p : Nat) : Int)) 279 18 0)) ((up2_ne (by omega)).trans ((up2_ne (by omega)).trans hmd)) ⟨(up2_ne (by omega)).trans ((up2_ne (by omega)).trans hL.1), hL.2⟩ ((up2_ne (by omega)).trans ((up2_ne (by omega)).trans hE)) ((up2_ne (by omega)).trans ((up2_ne (by omega)).trans hY)) ?_)
            refine go_aload_n 1 dX10_probate_69 rfl rfl ?_
            refine go_iconst dX10_probate_70 (by decide) ?_
            refine go_putI dX10_probate_71 (Or.inl lk10_173) kd_279 (by omega) rfl (Or.inl rfl) ?_
            refine go_aload_n 1 dX10_probate_74 rfl rfl ?_
            refine go_iconst dX10_probate_75 (by decide) ?_
            refine go_putI dX10_probate_76 (Or.inl lk10_176) kd_279 (by omega) rfl (Or.inl rfl) ?_
            refine go_aload_n 1 dX10_probate_79 rfl rfl ?_
            refine go_iconst dX10_probate_80 (by decide) ?_
            refine go_putI dX10_probate_81 (Or.inl lk10_179) kd_279 (by omega) rfl (Or.inl rfl) ?_
            refine go_aload_n 1 dX10_probate_84 rfl rfl ?_
            refine go_getR (r := 302) dX10_probate_85 lk10_80.get kd_279 (by omega) rfl (pp_279_39 w) ?_
            refine go_iconst dX10_probate_88 (by decide) ?_
            refine go_iconst dX10_probate_89 (by decide) ?_
            refine gx_bastore 0 dX10_probate_90 kd_302 (by omega) rfl ln_302 (by omega) (by omega) (by omega) ?_
            refine go_aload_n 1 dX10_probate_91 rfl rfl ?_
            refine go_getR (r := 302) dX10_probate_92 lk10_80.get kd_279 (by omega) rfl (pp_279_39 w) ?_
            refine go_iconst dX10_probate_95 (by decide) ?_
            refine go_iconst dX10_probate_96 (by decide) ?_
            refine gx_bastore 1 dX10_probate_97 kd_302 (by omega) rfl ln_302 (by omega) (by omega) (by omega) ?_
            refine go_aload_n 1 dX10_probate_98 rfl rfl ?_
            refine go_getR (r := 284) dX10_probate_99 lk10_22.get kd_279 (by omega) rfl (pp_279_8 w) ?_
            refine go_iconst dX10_probate_102 (by decide) ?_
            refine gx_iaload (v := ((rTR (rT0 (up2 (up2 M' 279 20 ((skp T n p : Nat) : Int)) 279 18 0) md E Y) L) 284 0)) 0 dX10_probate_103 kd_284 (by omega) ln_284 (by omega) (by omega) ((up2_ne (by omega)).trans ((up2_ne (by omega)).trans ((up2_ne (by omega)).trans ((up2_ne (by omega)).trans (up2_ne (by omega)))))) ?_
            refine go_iret dX10_probate_104 rfl rfl ⟨_, rfl, ?_⟩
            exact hQ
          · exact absurd c6 (by decide)
        · exact absurd c5 (by decide)

set_option maxHeartbeats 4000000 in
set_option maxRecDepth 100000 in
theorem ok_X10_probate {w n : Nat} {T : Nat → Int} {M : inm} {Q : Int → Nat → rfm → inm → Prop} (h240 : n ≤ 240) (ht : ∀ j, j < n → 0 ≤ T j ∧ T j ≤ 255) (J : Nat → inm → Prop) (hJ : ∀ k M', J k M' → M' 279 18 = (n : Int) ∧ (fun j => M' 290 j) = T ∧ ∃ p : Nat, M' 279 20 = (p : Int) ∧ p ≤ n ∧ k ≤ p) (hstep : ∀ k M' (p : Nat), J k M' → M' 279 20 = (p : Int) → p ≤ n → skp T n p < n → ∃ (md : Int) (L E Y : Nat), M' 279 23 = md ∧ (M' 279 24 = (L : Int) ∧ L ≤ 12) ∧ (M' 279 27 = (E : Int) ∧ E ≤ 5) ∧ (M' 279 30 = (Y : Int) ∧ Y ≤ 6) ∧ (¬ clF T n (skp T n p) md L E Y = 0 → 1 ≤ clF T n (skp T n p) md L E Y ∧ clF T n (skp T n p) md L E Y ≤ 3 ∧ ∀ M2 : inm, Fr (up2 M' 279 20 ((skp T n p : Nat) : Int)) M2 → M2 279 19 = ((clP T n (skp T n p) md L E Y : Nat) : Int) → Q (-10 - clF T n (skp T n p) md L E Y) 303 (PP w) (up2 M2 279 18 0)) ∧ (clF T n (skp T n p) md L E Y = 0 → ∀ M2 : inm, DS (up2 (up2 M' 279 20 ((skp T n p : Nat) : Int)) 279 20 ((skp T n p + 1 : Nat) : Int)) M2 T n (skp T n p + 1) (T (skp T n p)) L E Y → J (k + 1) (up2 M2 279 20 ((bdE T n (skp T n p + 1) (T (skp T n p)) + 1 : Nat) : Int)))) (hend : ∀ k M' (p : Nat), J k M' → M' 279 20 = (p : Int) → ¬ skp T n p < n → ∃ (md : Int) (L E Y : Nat), M' 279 23 = md ∧ (M' 279 24 = (L : Int) ∧ L ≤ 12) ∧ M' 279 27 = (E : Int) ∧ M' 279 30 = (Y : Int) ∧ Q (rPr (rTR (rT0 (up2 (up2 M' 279 20 ((skp T n p : Nat) : Int)) 279 18 0) md E Y) L) 284 0) 303 (PP w) (rPr (rTR (rT0 (up2 (up2 M' 279 20 ((skp T n p : Nat) : Int)) 279 18 0) md E Y) L))) (hI : J 0 (rPb0 M)) : OkI yX10_probate cX10_probate 2 5 0 0 (some .int) [vR 279] 303 (PP w) M Q := by
  refine OkI.of (by decide +kernel) (by decide +kernel) (Nat.le_of_ble_eq_true rfl) ?_
  refine go_eq (lv' := [(0, vR 279)]) rfl rfl rfl rfl rfl ?_
  refine go_aload_n 0 dX10_probate_0 rfl rfl ?_
  refine go_iconst dX10_probate_1 (by decide) ?_
  refine go_putI dX10_probate_2 (Or.inl lk10_43) kd_279 (by omega) rfl (Or.inl rfl) ?_
  refine go_aload_n 0 dX10_probate_5 rfl rfl ?_
  refine go_iconst dX10_probate_6 (by decide) ?_
  refine go_putI dX10_probate_7 (Or.inl lk10_101) kd_279 (by omega) rfl (Or.inl rfl) ?_
  refine go_aload_n 0 dX10_probate_10 rfl rfl ?_
  refine go_iconst dX10_probate_11 (by decide) ?_
  refine go_putI dX10_probate_12 (Or.inl lk10_125) kd_279 (by omega) rfl (Or.inl rfl) ?_
  refine go_aload_n 0 dX10_probate_15 rfl rfl ?_
  refine go_iconst dX10_probate_16 (by decide) ?_
  refine go_putI dX10_probate_17 (Or.inl lk10_128) kd_279 (by omega) rfl (Or.inl rfl) ?_
  refine go_aload_n 0 dX10_probate_20 rfl rfl ?_
  refine go_iconst dX10_probate_21 (by decide) ?_
  refine go_putI dX10_probate_22 (Or.inl lk10_131) kd_279 (by omega) rfl (Or.inl rfl) ?_
  refine go_aload_n 0 dX10_probate_25 rfl rfl ?_
  refine go_iconst dX10_probate_26 (by decide) ?_
  refine go_putI dX10_probate_27 (Or.inl lk10_134) kd_279 (by omega) rfl (Or.inl rfl) ?_
  refine go_iconst dX10_probate_30 (by decide) ?_
  refine go_istore_n (lv' := [(1, vI 0), (0, vR 279)]) dX10_probate_31 rfl (by decide) rfl ?_
  refine go_lv [0, 1] rfl ?_
  exact lp_X10_probate h240 ht J hJ hstep hend (n + 1) 0 (by omega) _ hI

