/-! ===== the reference: numbers read ===== -/
theorem skpF_end {T : Nat → Int} {n : Nat} : ∀ d p, n ≤ p + d → ¬ (skpF T n d p < n ∧ T (skpF T n d p) = 32)
  | 0, p, h => by show ¬ (p < n ∧ T p = 32); omega
  | d + 1, p, h => by
    rw [skpF]
    split
    · exact skpF_end d (p + 1) (by omega)
    · assumption
theorem skp_end {T : Nat → Int} {n p : Nat} : ¬ (skp T n p < n ∧ T (skp T n p) = 32) := skpF_end _ p (by omega)
theorem skp_skp {T : Nat → Int} {n p : Nat} : skp T n (skp T n p) = skp T n p := skp_no skp_end
def numB (T : Nat → Int) (n p : Nat) : Nat := skp T n p
def numE (T : Nat → Int) (n p : Nat) : Nat := dig T n (skp T n p)
def nF (T : Nat → Int) (n p : Nat) (lo hi : Int) : Int := numF T (numB T n p) (numE T n p) lo hi
def nV (T : Nat → Int) (n p : Nat) : Int := dv T (numB T n p) (numE T n p - numB T n p)
theorem numE_in {T : Nat → Int} {n p : Nat} (h : p ≤ n) : p ≤ numB T n p ∧ numB T n p ≤ numE T n p ∧ numE T n p ≤ n := by
  have h1 := skp_in (T := T) h
  have h2 := dig_in (T := T) h1.2
  exact ⟨h1.1, h2.1, h2.2⟩
theorem nF_in {T : Nat → Int} {n p : Nat} {lo hi : Int} : 0 ≤ nF T n p lo hi ∧ nF T n p lo hi ≤ 2 := by
  unfold nF numF
  split
  · omega
  · split <;> omega
/-- the reference's number of k figures -/
def nrv (T : Nat → Int) (b : Nat) : Nat → Int
  | 0 => 0
  | k + 1 => if 10000 < nrv T b k then nrv T b k else 10 * nrv T b k + T (b + k) - 48
theorem nrv_dv {T : Nat → Int} {b : Nat} : ∀ k, k ≤ 3 → (∀ j, j < k → 48 ≤ T (b + j) ∧ T (b + j) ≤ 57) → nrv T b k = dv T b k
  | 0, _, _ => rfl
  | k + 1, h, hd => by
    have ih := nrv_dv k (by omega) (fun j hj => hd j (by omega))
    have hb := dv_in (T := T) (p := b) k (fun j hj => hd j (by omega))
    rw [nrv, dv, ih, if_neg (by omega), if_pos (by omega)]
    omega
theorem nrv_in {T : Nat → Int} {b : Nat} : ∀ k, (∀ j, j < k → 48 ≤ T (b + j) ∧ T (b + j) ≤ 57) → 0 ≤ nrv T b k ∧ nrv T b k ≤ 100009
  | 0, _ => by show (0 : Int) ≤ 0 ∧ (0 : Int) ≤ 100009; omega
  | k + 1, hd => by
    have ih := nrv_in k (fun j hj => hd j (by omega))
    have h1 := hd k (by omega)
    rw [nrv]
    split <;> omega
/-- but for what a reading writes nothing has changed -/
def Fr (M M' : inm) : Prop := ∀ x j, ¬ (x = 279 ∧ 19 ≤ j ∧ j ≤ 32) → ¬ (291 ≤ x ∧ x ≤ 296) → M' x j = M x j
/-- but for where the reading stands and its number nothing has changed -/
def FN (M M' : inm) : Prop := ∀ x j, ¬ (x = 279 ∧ 20 ≤ j ∧ j ≤ 22) → M' x j = M x j
def F4 (M M' : inm) : Prop := ∀ x j, ¬ (x = 279 ∧ 19 ≤ j ∧ j ≤ 22) → M' x j = M x j
theorem F4.fr {M M' : inm} (h : F4 M M') : Fr M M' := fun x j h1 _ => h x j (by omega)
theorem F4.up {M M' : inm} {j : Nat} {z : Int} (h : F4 M M') (hj : 19 ≤ j ∧ j ≤ 22) : F4 M (up2 M' 279 j z) := fun x i a => (up2_ne (by omega)).trans (h x i a)
theorem FN.f4 {M M' : inm} (h : FN M M') : F4 M M' := fun x j h1 => h x j (by omega)
theorem F4.rf (M : inm) : F4 M M := fun _ _ _ => rfl
theorem FN.fr {M M' : inm} (h : FN M M') : Fr M M' := fun x j h1 _ => h x j (by omega)
theorem FN.rf (M : inm) : FN M M := fun _ _ _ => rfl
theorem Fr.rf (M : inm) : Fr M M := fun _ _ _ _ => rfl
theorem Fr.trans {M M' M2 : inm} (h : Fr M M') (h2 : Fr M' M2) : Fr M M2 := fun x j a b => (h2 x j a b).trans (h x j a b)
theorem FN.trans {M M' M2 : inm} (h : FN M M') (h2 : FN M' M2) : FN M M2 := fun x j a => (h2 x j a).trans (h x j a)
theorem FN.up {M M' : inm} {j : Nat} {z : Int} (h : FN M M') (hj : 20 ≤ j ∧ j ≤ 22) : FN M (up2 M' 279 j z) := fun x i a => (up2_ne (by omega)).trans (h x i a)
theorem Fr.up {M M' : inm} {a j : Nat} {z : Int} (h : Fr M M') (ha : (a = 279 ∧ 19 ≤ j ∧ j ≤ 32) ∨ (291 ≤ a ∧ a ≤ 296)) : Fr M (up2 M' a j z) := fun x i b c => (up2_ne (by omega)).trans (h x i b c)
set_option maxHeartbeats 4000000 in
set_option maxRecDepth 100000 in
theorem lp_X10_here {w n : Nat} {M : inm} {Q : Int → Nat → rfm → inm → Prop} (hn : M 279 18 = (n : Int)) (h240 : n ≤ 240) : ∀ d p, n < p + d → p ≤ n → ((skp (fun j => M 290 j) n p) < n → Q (M 290 (skp (fun j => M 290 j) n p)) 303 (PP w) (up2 M 279 20 (((skp (fun j => M 290 j) n p) : Nat) : Int))) → (¬ (skp (fun j => M 290 j) n p) < n → Q (-1) 303 (PP w) (up2 M 279 20 (((skp (fun j => M 290 j) n p) : Nat) : Int))) → Go S0 yX10_here cX10_here 1 0 0 0 (some .int) 0 [(0, vR 279)] [] 303 (PP w) (up2 M 279 20 ((p : Nat) : Int)) (fun v n P M => ∃ z, v = some (vI z) ∧ Q z n P M) := by
  intro d
  induction d with
  | zero => intro p h1 h2; exfalso; omega
  | succ d ih =>
    intro p h1 h2 g1 g0
    refine go_aload_n 0 dX10_here_0 rfl rfl ?_
    refine gx_getI (v := ((p : Nat) : Int)) dX10_here_1 lk10_101.get kd_279 (by omega) rfl up2_same ?_
    refine go_aload_n 0 dX10_here_4 rfl rfl ?_
    refine gx_getI (v := ((n : Nat) : Int)) dX10_here_5 lk10_97.get kd_279 (by omega) rfl ((up2_ne (by omega)).trans hn) ?_
    refine go_icmp_ge (tgt := 38) dX10_here_8 rfl (fun c1 => ?_) (fun c1 => ?_)
    · refine go_aload_n 0 dX10_here_38 rfl rfl ?_
      refine gx_getI (v := ((p : Nat) : Int)) dX10_here_39 lk10_101.get kd_279 (by omega) rfl up2_same ?_
      refine go_aload_n 0 dX10_here_42 rfl rfl ?_
      refine gx_getI (v := ((n : Nat) : Int)) dX10_here_43 lk10_97.get kd_279 (by omega) rfl ((up2_ne (by omega)).trans hn) ?_
      refine go_icmp_ge (tgt := 61) dX10_here_46 rfl (fun c2 => ?_) (fun c2 => ?_)
      · refine go_iconst dX10_here_61 (by decide) ?_
        refine go_iret dX10_here_62 rfl rfl ⟨_, rfl, ?_⟩
        rw [skp_no (by omega)] at g1 g0
        first | exact g1 (by omega) | exact g0 (by omega)
      · refine go_aload_n 0 dX10_here_49 rfl rfl ?_
        refine go_getR (r := 290) dX10_here_50 lk10_40.get kd_279 (by omega) rfl (pp_279_17 w) ?_
        refine go_aload_n 0 dX10_here_53 rfl rfl ?_
        refine gx_getI (v := ((p : Nat) : Int)) dX10_here_54 lk10_101.get kd_279 (by omega) rfl up2_same ?_
        refine gx_iaload (v := (M 290 p)) p dX10_here_57 kd_290 (by omega) ln_290 rfl (by omega) (up2_ne (by omega)) ?_
        refine go_goto (tgt := 62) dX10_here_58 rfl ?_
        refine go_iret dX10_here_62 rfl rfl ⟨_, rfl, ?_⟩
        rw [skp_no (by omega)] at g1 g0
        first | exact g1 (by omega) | exact g0 (by omega)
    · refine go_aload_n 0 dX10_here_11 rfl rfl ?_
      refine go_getR (r := 290) dX10_here_12 lk10_40.get kd_279 (by omega) rfl (pp_279_17 w) ?_
      refine go_aload_n 0 dX10_here_15 rfl rfl ?_
      refine gx_getI (v := ((p : Nat) : Int)) dX10_here_16 lk10_101.get kd_279 (by omega) rfl up2_same ?_
      refine gx_iaload (v := (M 290 p)) p dX10_here_19 kd_290 (by omega) ln_290 rfl (by omega) (up2_ne (by omega)) ?_
      refine go_bipush dX10_here_20 (by decide) (by decide) ?_
      refine go_icmp_ne (tgt := 38) dX10_here_22 rfl (fun c3 => ?_) (fun c3 => ?_)
      · refine go_aload_n 0 dX10_here_38 rfl rfl ?_
        refine gx_getI (v := ((p : Nat) : Int)) dX10_here_39 lk10_101.get kd_279 (by omega) rfl up2_same ?_
        refine go_aload_n 0 dX10_here_42 rfl rfl ?_
        refine gx_getI (v := ((n : Nat) : Int)) dX10_here_43 lk10_97.get kd_279 (by omega) rfl ((up2_ne (by omega)).trans hn) ?_
        refine go_icmp_ge (tgt := 61) dX10_here_46 rfl (fun c4 => ?_) (fun c4 => ?_)
        · refine go_iconst dX10_here_61 (by decide) ?_
          refine go_iret dX10_here_62 rfl rfl ⟨_, rfl, ?_⟩
          rw [skp_no (by omega)] at g1 g0
          first | exact g1 (by omega) | exact g0 (by omega)
        · refine go_aload_n 0 dX10_here_49 rfl rfl ?_
          refine go_getR (r := 290) dX10_here_50 lk10_40.get kd_279 (by omega) rfl (pp_279_17 w) ?_
          refine go_aload_n 0 dX10_here_53 rfl rfl ?_
          refine gx_getI (v := ((p : Nat) : Int)) dX10_here_54 lk10_101.get kd_279 (by omega) rfl up2_same ?_
          refine gx_iaload (v := (M 290 p)) p dX10_here_57 kd_290 (by omega) ln_290 rfl (by omega) (up2_ne (by omega)) ?_
          refine go_goto (tgt := 62) dX10_here_58 rfl ?_
          refine go_iret dX10_here_62 rfl rfl ⟨_, rfl, ?_⟩
          rw [skp_no (by omega)] at g1 g0
          first | exact g1 (by omega) | exact g0 (by omega)
      · refine go_aload_n 0 dX10_here_25 rfl rfl ?_
        refine go_dup dX10_here_26 rfl ?_
        refine gx_getI (v := ((p : Nat) : Int)) dX10_here_27 lk10_101.get kd_279 (by omega) rfl up2_same ?_
        refine go_iconst dX10_here_30 (by decide) ?_
        refine gx_iadd (v := ((p + 1 : Nat) : Int)) dX10_here_31 (by omega) ⟨by omega, by omega⟩ ?_
        refine go_putI dX10_here_32 (Or.inl lk10_101) kd_279 (by omega) rfl (Or.inl rfl) ?_
        refine go_goto (tgt := 0) dX10_here_35 rfl ?_
        rw [skp_go (by omega) (by assumption)] at g1 g0
        rw [up2_up]
        exact ih (p + 1) (by omega) (by omega) g1 g0

set_option maxHeartbeats 4000000 in
set_option maxRecDepth 100000 in
theorem ok_X10_here {w n p : Nat} {M : inm} {Q : Int → Nat → rfm → inm → Prop} (hn : M 279 18 = (n : Int)) (hp : M 279 20 = (p : Int)) (h240 : n ≤ 240) (hpn : p ≤ n) (g1 : (skp (fun j => M 290 j) n p) < n → Q (M 290 (skp (fun j => M 290 j) n p)) 303 (PP w) (up2 M 279 20 (((skp (fun j => M 290 j) n p) : Nat) : Int))) (g0 : ¬ (skp (fun j => M 290 j) n p) < n → Q (-1) 303 (PP w) (up2 M 279 20 (((skp (fun j => M 290 j) n p) : Nat) : Int))) : OkI yX10_here cX10_here 1 0 0 0 (some .int) [vR 279] 303 (PP w) M Q := by
  refine OkI.of (by decide +kernel) (by decide +kernel) (Nat.le_of_ble_eq_true rfl) ?_
  refine go_eq (lv' := [(0, vR 279)]) rfl rfl rfl rfl (M' := up2 M 279 20 ((p : Nat) : Int)) (up2_self hp).symm ?_
  exact lp_X10_here hn h240 (n + 1) p (by omega) hpn g1 g0

set_option maxHeartbeats 4000000 in
set_option maxRecDepth 100000 in
theorem ok_X10_fails {w : Nat} {f z : Int} {M : inm} {Q : Int → Nat → rfm → inm → Prop} (hQ : Q f 303 (PP w) (up2 M 279 19 z)) : OkI yX10_fails cX10_fails 3 0 0 0 (some .int) [vR 279, vI f, vI z] 303 (PP w) M Q := by
  refine OkI.of (by decide +kernel) (by decide +kernel) (Nat.le_of_ble_eq_true rfl) ?_
  refine go_eq (lv' := [(0, vR 279), (1, vI f), (2, vI z)]) rfl rfl rfl rfl rfl ?_
  refine go_aload_n 0 dX10_fails_0 rfl rfl ?_
  refine go_iload_n 2 dX10_fails_1 rfl rfl ?_
  refine go_putI dX10_fails_2 (Or.inl lk10_43) kd_279 (by omega) rfl (Or.inl rfl) ?_
  refine go_iload_n 1 dX10_fails_5 rfl rfl ?_
  refine go_iret dX10_fails_6 rfl rfl ⟨_, rfl, ?_⟩
  exact hQ

set_option maxHeartbeats 4000000 in
set_option maxRecDepth 100000 in
theorem lp_X10_takeNumber {w n p : Nat} {lo hi : Int} {M : inm} {ch : Int} {Q : Int → Nat → rfm → inm → Prop} (hn : M 279 18 = (n : Int)) (hp : M 279 20 = (p : Int)) (h240 : n ≤ 240) (hpn : p ≤ n) (ht : ∀ j, j < n → 0 ≤ M 290 j ∧ M 290 j ≤ 255) (gF : ¬ (nF (fun j => M 290 j) n p lo hi) = 0 → ∀ M' : inm, F4 M M' → M' 279 19 = (((numB (fun j => M 290 j) n p) : Nat) : Int) → Q (nF (fun j => M 290 j) n p lo hi) 303 (PP w) M') (gS : (nF (fun j => M 290 j) n p lo hi) = 0 → ∀ M' : inm, FN M M' → M' 279 20 = (((numE (fun j => M 290 j) n p) : Nat) : Int) → M' 279 21 = nV (fun j => M 290 j) n p → Q 0 303 (PP w) M') (hb : (numB (fun j => M 290 j) n p) < (numE (fun j => M 290 j) n p)) : ∀ d k, n < (numB (fun j => M 290 j) n p) + k + d → (numB (fun j => M 290 j) n p) + k ≤ n → (∀ j, j < k → 48 ≤ M 290 ((numB (fun j => M 290 j) n p) + j) ∧ M 290 ((numB (fun j => M 290 j) n p) + j) ≤ 57) → (numE (fun j => M 290 j) n p) = dig (fun j => M 290 j) n ((numB (fun j => M 290 j) n p) + k) → ∀ M' : inm, FN M M' → M' 279 20 = (((numB (fun j => M 290 j) n p) + k : Nat) : Int) → M' 279 21 = (nrv (fun j => M 290 j) (numB (fun j => M 290 j) n p) k) → M' 279 22 = (((numB (fun j => M 290 j) n p) : Nat) : Int) → Go S0 yX10_takeNumber cX10_takeNumber 4 1 0 0 (some .int) 42 [(3, vI ch), (0, vR 279), (1, vI lo), (2, vI hi)] [] 303 (PP w) M' (fun v n P M => ∃ z, v = some (vI z) ∧ Q z n P M) := by
  have hbi := numE_in (T := (fun j => M 290 j)) hpn
  intro d
  induction d with
  | zero => intro k h1 h2; exfalso; omega
  | succ d ih =>
    intro k h1 h2 hd hk M' hfn h20 h21 h22
    have hri := nrv_in (T := (fun j => M 290 j)) (b := (numB (fun j => M 290 j) n p)) k hd
    refine go_aload_n 1 dX10_takeNumber_42 rfl rfl ?_
    refine gx_getI (v := (((numB (fun j => M 290 j) n p) + k : Nat) : Int)) dX10_takeNumber_43 lk10_101.get kd_279 (by omega) rfl h20 ?_
    refine go_aload_n 1 dX10_takeNumber_46 rfl rfl ?_
    refine gx_getI (v := ((n : Nat) : Int)) dX10_takeNumber_47 lk10_97.get kd_279 (by omega) rfl (((hfn 279 18 (by omega)).trans hn)) ?_
    refine go_icmp_ge (tgt := 129) dX10_takeNumber_50 rfl (fun c1 => ?_) (fun c1 => ?_)
    · refine go_aload_n 1 dX10_takeNumber_129 rfl rfl ?_
      refine gx_getI (v := (((numB (fun j => M 290 j) n p) + k : Nat) : Int)) dX10_takeNumber_130 lk10_101.get kd_279 (by omega) rfl h20 ?_
      refine go_aload_n 1 dX10_takeNumber_133 rfl rfl ?_
      refine gx_getI (v := (((numB (fun j => M 290 j) n p) : Nat) : Int)) dX10_takeNumber_134 lk10_116.get kd_279 (by omega) rfl h22 ?_
      refine gx_isub (v := ((k : Nat) : Int)) dX10_takeNumber_137 (by omega) ⟨by omega, by omega⟩ ?_
      refine go_iconst dX10_takeNumber_138 (by decide) ?_
      refine go_icmp_gt (tgt := 157) dX10_takeNumber_139 rfl (fun c2 => ?_) (fun c2 => ?_)
      · refine go_aload_n 1 dX10_takeNumber_157 rfl rfl ?_
        refine go_iconst dX10_takeNumber_158 (by decide) ?_
        refine go_aload_n 1 dX10_takeNumber_159 rfl rfl ?_
        refine gx_getI (v := (((numB (fun j => M 290 j) n p) : Nat) : Int)) dX10_takeNumber_160 lk10_116.get kd_279 (by omega) rfl h22 ?_
        refine go_callVI (av := [vI 2, vI (((numB (fun j => M 290 j) n p) : Nat) : Int)]) (st := []) (a := 279) (mc2 := 0) (ms2 := 0) dX10_takeNumber_163 cw10_112 (by decide) rfl rfl (Nat.le_of_ble_eq_true rfl) rfl rfl kd_279 ⟨_, _, rfl⟩ (by decide) (by omega) (ok_X10_fails ?_)
        refine go_goto (tgt := 170) dX10_takeNumber_166 rfl ?_
        refine go_iret dX10_takeNumber_170 rfl rfl ⟨_, rfl, ?_⟩
        have hE : (numE (fun j => M 290 j) n p) = (numB (fun j => M 290 j) n p) + k := hk.trans (dig_no (by omega))
        have hkk : (numE (fun j => M 290 j) n p) - (numB (fun j => M 290 j) n p) = k := by omega
        have hrv := fun h : k ≤ 3 => nrv_dv (T := (fun j => M 290 j)) (b := (numB (fun j => M 290 j) n p)) k h hd
        have h2 : (nF (fun j => M 290 j) n p lo hi) = 2 := by unfold nF numF; rw [if_neg (by omega), hkk, if_pos (by by_cases h3 : k ≤ 3; (rw [← hrv h3]; omega); omega)]
        rw [h2] at gF
        exact gF (by decide) _ (hfn.f4.up (by omega)) up2_same
      · refine go_aload_n 1 dX10_takeNumber_142 rfl rfl ?_
        refine gx_getI (v := (nrv (fun j => M 290 j) (numB (fun j => M 290 j) n p) k)) dX10_takeNumber_143 lk10_119.get kd_279 (by omega) rfl h21 ?_
        refine go_i2l dX10_takeNumber_146 ?_
        refine go_iload_n 2 dX10_takeNumber_147 rfl rfl ?_
        refine go_i2l dX10_takeNumber_148 ?_
        refine go_iload_n 3 dX10_takeNumber_149 rfl rfl ?_
        refine go_i2l dX10_takeNumber_150 ?_
        refine go_callSI (av := [vL (nrv (fun j => M 290 j) (numB (fun j => M 290 j) n p) k), vL lo, vL hi]) (st := []) (mc2 := 0) (ms2 := 0) dX10_takeNumber_151 cw10_87 (by decide) rfl rfl (Nat.le_of_ble_eq_true rfl) rfl rfl (ok_X10_in (fun i3 i4 => ?_) (fun i5 => ?_))
        · skip
          refine go_if_ne (tgt := 169) dX10_takeNumber_154 rfl (fun c6 => ?_) (fun c6 => ?_)
          · refine go_iconst dX10_takeNumber_169 (by decide) ?_
            refine go_iret dX10_takeNumber_170 rfl rfl ⟨_, rfl, ?_⟩
            have hE : (numE (fun j => M 290 j) n p) = (numB (fun j => M 290 j) n p) + k := hk.trans (dig_no (by omega))
            have hkk : (numE (fun j => M 290 j) n p) - (numB (fun j => M 290 j) n p) = k := by omega
            have hrv := fun h : k ≤ 3 => nrv_dv (T := (fun j => M 290 j)) (b := (numB (fun j => M 290 j) n p)) k h hd
            have h0 : (nF (fun j => M 290 j) n p lo hi) = 0 := by unfold nF numF; rw [if_neg (by omega), hkk, ← hrv (by omega), if_neg (by omega)]
            exact gS h0 M' hfn (by rw [h20, hE]) (by rw [h21, nV, hkk, hrv (by omega)])
          · exact absurd c6 (by decide)
        · skip
          refine go_if_ne (tgt := 169) dX10_takeNumber_154 rfl (fun c7 => ?_) (fun c7 => ?_)
          · exact absurd c7 (by decide)
          · refine go_aload_n 1 dX10_takeNumber_157 rfl rfl ?_
            refine go_iconst dX10_takeNumber_158 (by decide) ?_
            refine go_aload_n 1 dX10_takeNumber_159 rfl rfl ?_
            refine gx_getI (v := (((numB (fun j => M 290 j) n p) : Nat) : Int)) dX10_takeNumber_160 lk10_116.get kd_279 (by omega) rfl h22 ?_
            refine go_callVI (av := [vI 2, vI (((numB (fun j => M 290 j) n p) : Nat) : Int)]) (st := []) (a := 279) (mc2 := 0) (ms2 := 0) dX10_takeNumber_163 cw10_112 (by decide) rfl rfl (Nat.le_of_ble_eq_true rfl) rfl rfl kd_279 ⟨_, _, rfl⟩ (by decide) (by omega) (ok_X10_fails ?_)
            refine go_goto (tgt := 170) dX10_takeNumber_166 rfl ?_
            refine go_iret dX10_takeNumber_170 rfl rfl ⟨_, rfl, ?_⟩
            have hE : (numE (fun j => M 290 j) n p) = (numB (fun j => M 290 j) n p) + k := hk.trans (dig_no (by omega))
            have hkk : (numE (fun j => M 290 j) n p) - (numB (fun j => M 290 j) n p) = k := by omega
            have hrv := fun h : k ≤ 3 => nrv_dv (T := (fun j => M 290 j)) (b := (numB (fun j => M 290 j) n p)) k h hd
            have h2 : (nF (fun j => M 290 j) n p lo hi) = 2 := by unfold nF numF; rw [if_neg (by omega), hkk, if_pos (by by_cases h3 : k ≤ 3; (rw [← hrv h3]; omega); omega)]
            rw [h2] at gF
            exact gF (by decide) _ (hfn.f4.up (by omega)) up2_same
    · refine go_aload_n 1 dX10_takeNumber_53 rfl rfl ?_
      refine go_getR (r := 290) dX10_takeNumber_54 lk10_40.get kd_279 (by omega) rfl (pp_279_17 w) ?_
      refine go_aload_n 1 dX10_takeNumber_57 rfl rfl ?_
      refine gx_getI (v := (((numB (fun j => M 290 j) n p) + k : Nat) : Int)) dX10_takeNumber_58 lk10_101.get kd_279 (by omega) rfl h20 ?_
      have f8 := ht ((numB (fun j => M 290 j) n p) + k) (by omega)
      refine gx_iaload (v := (M 290 ((numB (fun j => M 290 j) n p) + k))) ((numB (fun j => M 290 j) n p) + k) dX10_takeNumber_61 kd_290 (by omega) ln_290 rfl (by omega) ((hfn 290 ((numB (fun j => M 290 j) n p) + k) (by omega))) ?_
      refine go_i2l dX10_takeNumber_62 ?_
      refine go_ldc2 dX10_takeNumber_63 jk10_108 (by decide) ?_
      refine go_ldc2 dX10_takeNumber_66 jk10_110 (by decide) ?_
      refine go_callSI (av := [vL (M 290 ((numB (fun j => M 290 j) n p) + k)), vL 48, vL 57]) (st := []) (mc2 := 0) (ms2 := 0) dX10_takeNumber_69 cw10_87 (by decide) rfl rfl (Nat.le_of_ble_eq_true rfl) rfl rfl (ok_X10_in (fun i9 i10 => ?_) (fun i11 => ?_))
      · skip
        refine go_if_eq (tgt := 129) dX10_takeNumber_72 rfl (fun c12 => ?_) (fun c12 => ?_)
        · exact absurd c12 (by decide)
        · refine go_aload_n 1 dX10_takeNumber_75 rfl rfl ?_
          refine go_aload_n 1 dX10_takeNumber_76 rfl rfl ?_
          refine gx_getI (v := (nrv (fun j => M 290 j) (numB (fun j => M 290 j) n p) k)) dX10_takeNumber_77 lk10_119.get kd_279 (by omega) rfl h21 ?_
          refine go_sipush dX10_takeNumber_80 (by decide) (by decide) ?_
          refine go_icmp_le (tgt := 93) dX10_takeNumber_83 rfl (fun c13 => ?_) (fun c13 => ?_)
          · refine go_bipush dX10_takeNumber_93 (by decide) (by decide) ?_
            refine go_aload_n 1 dX10_takeNumber_95 rfl rfl ?_
            refine gx_getI (v := (nrv (fun j => M 290 j) (numB (fun j => M 290 j) n p) k)) dX10_takeNumber_96 lk10_119.get kd_279 (by omega) rfl h21 ?_
            refine gx_imul (v := (10 * (nrv (fun j => M 290 j) (numB (fun j => M 290 j) n p) k))) dX10_takeNumber_99 rfl ⟨by omega, by omega⟩ ?_
            refine go_aload_n 1 dX10_takeNumber_100 rfl rfl ?_
            refine go_getR (r := 290) dX10_takeNumber_101 lk10_40.get kd_279 (by omega) rfl (pp_279_17 w) ?_
            refine go_aload_n 1 dX10_takeNumber_104 rfl rfl ?_
            refine gx_getI (v := (((numB (fun j => M 290 j) n p) + k : Nat) : Int)) dX10_takeNumber_105 lk10_101.get kd_279 (by omega) rfl h20 ?_
            have f14 := ht ((numB (fun j => M 290 j) n p) + k) (by omega)
            refine gx_iaload (v := (M 290 ((numB (fun j => M 290 j) n p) + k))) ((numB (fun j => M 290 j) n p) + k) dX10_takeNumber_108 kd_290 (by omega) ln_290 rfl (by omega) ((hfn 290 ((numB (fun j => M 290 j) n p) + k) (by omega))) ?_
            refine gx_iadd (v := ((10 * (nrv (fun j => M 290 j) (numB (fun j => M 290 j) n p) k)) + (M 290 ((numB (fun j => M 290 j) n p) + k)))) dX10_takeNumber_109 rfl ⟨by omega, by omega⟩ ?_
            refine go_bipush dX10_takeNumber_110 (by decide) (by decide) ?_
            refine gx_isub (v := (((10 * (nrv (fun j => M 290 j) (numB (fun j => M 290 j) n p) k)) + (M 290 ((numB (fun j => M 290 j) n p) + k))) - 48)) dX10_takeNumber_112 rfl ⟨by omega, by omega⟩ ?_
            refine go_putI dX10_takeNumber_113 (Or.inl lk10_119) kd_279 (by omega) rfl (Or.inl rfl) ?_
            refine go_aload_n 1 dX10_takeNumber_116 rfl rfl ?_
            refine go_dup dX10_takeNumber_117 rfl ?_
            refine gx_getI (v := (((numB (fun j => M 290 j) n p) + k : Nat) : Int)) dX10_takeNumber_118 lk10_101.get kd_279 (by omega) rfl ((up2_ne (by omega)).trans h20) ?_
            refine go_iconst dX10_takeNumber_121 (by decide) ?_
            refine gx_iadd (v := (((numB (fun j => M 290 j) n p) + k + 1 : Nat) : Int)) dX10_takeNumber_122 (by omega) ⟨by omega, by omega⟩ ?_
            refine go_putI dX10_takeNumber_123 (Or.inl lk10_101) kd_279 (by omega) rfl (Or.inl rfl) ?_
            refine go_goto (tgt := 42) dX10_takeNumber_126 rfl ?_
            refine go_lv [0, 1, 2, 3] rfl ?_
            exact ih (k + 1) (by omega) (by omega) (fun j hj => by by_cases e : j = k; (rw [e]; omega); exact hd j (by omega)) (hk.trans (dig_go (by omega) (by omega))) _ ((hfn.up (by omega)).up (by omega)) up2_same ((((up2_ne (by omega)).trans up2_same) : _ = (((10 * (nrv (fun j => M 290 j) (numB (fun j => M 290 j) n p) k)) + (M 290 ((numB (fun j => M 290 j) n p) + k))) - 48)).trans (by rw [nrv]; first | (rw [if_pos (by omega)]; done) | (rw [if_neg (by omega)]; done))) ((up2_ne (by omega)).trans ((up2_ne (by omega)).trans h22))
          · refine go_aload_n 1 dX10_takeNumber_86 rfl rfl ?_
            refine gx_getI (v := (nrv (fun j => M 290 j) (numB (fun j => M 290 j) n p) k)) dX10_takeNumber_87 lk10_119.get kd_279 (by omega) rfl h21 ?_
            refine go_goto (tgt := 113) dX10_takeNumber_90 rfl ?_
            refine go_putI dX10_takeNumber_113 (Or.inl lk10_119) kd_279 (by omega) rfl (Or.inl rfl) ?_
            refine go_aload_n 1 dX10_takeNumber_116 rfl rfl ?_
            refine go_dup dX10_takeNumber_117 rfl ?_
            refine gx_getI (v := (((numB (fun j => M 290 j) n p) + k : Nat) : Int)) dX10_takeNumber_118 lk10_101.get kd_279 (by omega) rfl ((up2_ne (by omega)).trans h20) ?_
            refine go_iconst dX10_takeNumber_121 (by decide) ?_
            refine gx_iadd (v := (((numB (fun j => M 290 j) n p) + k + 1 : Nat) : Int)) dX10_takeNumber_122 (by omega) ⟨by omega, by omega⟩ ?_
            refine go_putI dX10_takeNumber_123 (Or.inl lk10_101) kd_279 (by omega) rfl (Or.inl rfl) ?_
            refine go_goto (tgt := 42) dX10_takeNumber_126 rfl ?_
            refine go_lv [0, 1, 2, 3] rfl ?_
            exact ih (k + 1) (by omega) (by omega) (fun j hj => by by_cases e : j = k; (rw [e]; omega); exact hd j (by omega)) (hk.trans (dig_go (by omega) (by omega))) _ ((hfn.up (by omega)).up (by omega)) up2_same ((((up2_ne (by omega)).trans up2_same) : _ = (nrv (fun j => M 290 j) (numB (fun j => M 290 j) n p) k)).trans (by rw [nrv]; first | (rw [if_pos (by omega)]; done) | (rw [if_neg (by omega)]; done))) ((up2_ne (by omega)).trans ((up2_ne (by omega)).trans h22))
      · skip
        refine go_if_eq (tgt := 129) dX10_takeNumber_72 rfl (fun c15 => ?_) (fun c15 => ?_)
        · refine go_aload_n 1 dX10_takeNumber_129 rfl rfl ?_
          refine gx_getI (v := (((numB (fun j => M 290 j) n p) + k : Nat) : Int)) dX10_takeNumber_130 lk10_101.get kd_279 (by omega) rfl h20 ?_
          refine go_aload_n 1 dX10_takeNumber_133 rfl rfl ?_
          refine gx_getI (v := (((numB (fun j => M 290 j) n p) : Nat) : Int)) dX10_takeNumber_134 lk10_116.get kd_279 (by omega) rfl h22 ?_
          refine gx_isub (v := ((k : Nat) : Int)) dX10_takeNumber_137 (by omega) ⟨by omega, by omega⟩ ?_
          refine go_iconst dX10_takeNumber_138 (by decide) ?_
          refine go_icmp_gt (tgt := 157) dX10_takeNumber_139 rfl (fun c16 => ?_) (fun c16 => ?_)
          · refine go_aload_n 1 dX10_takeNumber_157 rfl rfl ?_
            refine go_iconst dX10_takeNumber_158 (by decide) ?_
            refine go_aload_n 1 dX10_takeNumber_159 rfl rfl ?_
            refine gx_getI (v := (((numB (fun j => M 290 j) n p) : Nat) : Int)) dX10_takeNumber_160 lk10_116.get kd_279 (by omega) rfl h22 ?_
            refine go_callVI (av := [vI 2, vI (((numB (fun j => M 290 j) n p) : Nat) : Int)]) (st := []) (a := 279) (mc2 := 0) (ms2 := 0) dX10_takeNumber_163 cw10_112 (by decide) rfl rfl (Nat.le_of_ble_eq_true rfl) rfl rfl kd_279 ⟨_, _, rfl⟩ (by decide) (by omega) (ok_X10_fails ?_)
            refine go_goto (tgt := 170) dX10_takeNumber_166 rfl ?_
            refine go_iret dX10_takeNumber_170 rfl rfl ⟨_, rfl, ?_⟩
            have hE : (numE (fun j => M 290 j) n p) = (numB (fun j => M 290 j) n p) + k := hk.trans (dig_no (by omega))
            have hkk : (numE (fun j => M 290 j) n p) - (numB (fun j => M 290 j) n p) = k := by omega
            have hrv := fun h : k ≤ 3 => nrv_dv (T := (fun j => M 290 j)) (b := (numB (fun j => M 290 j) n p)) k h hd
            have h2 : (nF (fun j => M 290 j) n p lo hi) = 2 := by unfold nF numF; rw [if_neg (by omega), hkk, if_pos (by by_cases h3 : k ≤ 3; (rw [← hrv h3]; omega); omega)]
            rw [h2] at gF
            exact gF (by decide) _ (hfn.f4.up (by omega)) up2_same
          · refine go_aload_n 1 dX10_takeNumber_142 rfl rfl ?_
            refine gx_getI (v := (nrv (fun j => M 290 j) (numB (fun j => M 290 j) n p) k)) dX10_takeNumber_143 lk10_119.get kd_279 (by omega) rfl h21 ?_
            refine go_i2l dX10_takeNumber_146 ?_
            refine go_iload_n 2 dX10_takeNumber_147 rfl rfl ?_
            refine go_i2l dX10_takeNumber_148 ?_
            refine go_iload_n 3 dX10_takeNumber_149 rfl rfl ?_
            refine go_i2l dX10_takeNumber_150 ?_
            refine go_callSI (av := [vL (nrv (fun j => M 290 j) (numB (fun j => M 290 j) n p) k), vL lo, vL hi]) (st := []) (mc2 := 0) (ms2 := 0) dX10_takeNumber_151 cw10_87 (by decide) rfl rfl (Nat.le_of_ble_eq_true rfl) rfl rfl (ok_X10_in (fun i17 i18 => ?_) (fun i19 => ?_))
            · skip
              refine go_if_ne (tgt := 169) dX10_takeNumber_154 rfl (fun c20 => ?_) (fun c20 => ?_)
              · refine go_iconst dX10_takeNumber_169 (by decide) ?_
                refine go_iret dX10_takeNumber_170 rfl rfl ⟨_, rfl, ?_⟩
                have hE : (numE (fun j => M 290 j) n p) = (numB (fun j => M 290 j) n p) + k := hk.trans (dig_no (by omega))
                have hkk : (numE (fun j => M 290 j) n p) - (numB (fun j => M 290 j) n p) = k := by omega
                have hrv := fun h : k ≤ 3 => nrv_dv (T := (fun j => M 290 j)) (b := (numB (fun j => M 290 j) n p)) k h hd
                have h0 : (nF (fun j => M 290 j) n p lo hi) = 0 := by unfold nF numF; rw [if_neg (by omega), hkk, ← hrv (by omega), if_neg (by omega)]
                exact gS h0 M' hfn (by rw [h20, hE]) (by rw [h21, nV, hkk, hrv (by omega)])
              · exact absurd c20 (by decide)
            · skip
              refine go_if_ne (tgt := 169) dX10_takeNumber_154 rfl (fun c21 => ?_) (fun c21 => ?_)
              · exact absurd c21 (by decide)
              · refine go_aload_n 1 dX10_takeNumber_157 rfl rfl ?_
                refine go_iconst dX10_takeNumber_158 (by decide) ?_
                refine go_aload_n 1 dX10_takeNumber_159 rfl rfl ?_
                refine gx_getI (v := (((numB (fun j => M 290 j) n p) : Nat) : Int)) dX10_takeNumber_160 lk10_116.get kd_279 (by omega) rfl h22 ?_
                refine go_callVI (av := [vI 2, vI (((numB (fun j => M 290 j) n p) : Nat) : Int)]) (st := []) (a := 279) (mc2 := 0) (ms2 := 0) dX10_takeNumber_163 cw10_112 (by decide) rfl rfl (Nat.le_of_ble_eq_true rfl) rfl rfl kd_279 ⟨_, _, rfl⟩ (by decide) (by omega) (ok_X10_fails ?_)
                refine go_goto (tgt := 170) dX10_takeNumber_166 rfl ?_
                refine go_iret dX10_takeNumber_170 rfl rfl ⟨_, rfl, ?_⟩
                have hE : (numE (fun j => M 290 j) n p) = (numB (fun j => M 290 j) n p) + k := hk.trans (dig_no (by omega))
                have hkk : (numE (fun j => M 290 j) n p) - (numB (fun j => M 290 j) n p) = k := by omega
                have hrv := fun h : k ≤ 3 => nrv_dv (T := (fun j => M 290 j)) (b := (numB (fun j => M 290 j) n p)) k h hd
                have h2 : (nF (fun j => M 290 j) n p lo hi) = 2 := by unfold nF numF; rw [if_neg (by omega), hkk, if_pos (by by_cases h3 : k ≤ 3; (rw [← hrv h3]; omega); omega)]
                rw [h2] at gF
                exact gF (by decide) _ (hfn.f4.up (by omega)) up2_same
        · exact absurd c15 (by decide)

set_option maxHeartbeats 4000000 in
set_option maxRecDepth 100000 in
theorem ok_X10_takeNumber {w n p : Nat} {lo hi : Int} {M : inm} {Q : Int → Nat → rfm → inm → Prop} (hn : M 279 18 = (n : Int)) (hp : M 279 20 = (p : Int)) (h240 : n ≤ 240) (hpn : p ≤ n) (ht : ∀ j, j < n → 0 ≤ M 290 j ∧ M 290 j ≤ 255) (gF : ¬ (nF (fun j => M 290 j) n p lo hi) = 0 → ∀ M' : inm, F4 M M' → M' 279 19 = (((numB (fun j => M 290 j) n p) : Nat) : Int) → Q (nF (fun j => M 290 j) n p lo hi) 303 (PP w) M') (gS : (nF (fun j => M 290 j) n p lo hi) = 0 → ∀ M' : inm, FN M M' → M' 279 20 = (((numE (fun j => M 290 j) n p) : Nat) : Int) → M' 279 21 = nV (fun j => M 290 j) n p → Q 0 303 (PP w) M') : OkI yX10_takeNumber cX10_takeNumber 4 1 0 0 (some .int) [vR 279, vI lo, vI hi] 303 (PP w) M Q := by
  refine OkI.of (by decide +kernel) (by decide +kernel) (Nat.le_of_ble_eq_true rfl) ?_
  refine go_eq (lv' := [(0, vR 279), (1, vI lo), (2, vI hi)]) rfl rfl rfl rfl rfl ?_
  have hbi := numE_in (T := (fun j => M 290 j)) hpn
  refine go_aload_n 0 dX10_takeNumber_0 rfl rfl ?_
  refine go_callVI (av := []) (st := []) (a := 279) (mc2 := 0) (ms2 := 0) dX10_takeNumber_1 cw10_104 (by decide) rfl rfl (Nat.le_of_ble_eq_true rfl) rfl rfl kd_279 ⟨_, _, rfl⟩ (by decide) (by omega) (ok_X10_here hn hp h240 hpn (fun q1 => ?_) (fun q0 => ?_))
  · change (numB (fun j => M 290 j) n p) < n at q1
    have hb0 := ht (numB (fun j => M 290 j) n p) q1
    refine go_istore_n (lv' := [(3, vI (M 290 (numB (fun j => M 290 j) n p))), (0, vR 279), (1, vI lo), (2, vI hi)]) dX10_takeNumber_4 rfl (by decide) rfl ?_
    refine go_iload_n 0 dX10_takeNumber_5 rfl rfl ?_
    refine go_i2l dX10_takeNumber_6 ?_
    refine go_ldc2 dX10_takeNumber_7 jk10_108 (by decide) ?_
    refine go_ldc2 dX10_takeNumber_10 jk10_110 (by decide) ?_
    refine go_callSI (av := [vL (M 290 (numB (fun j => M 290 j) n p)), vL 48, vL 57]) (st := []) (mc2 := 0) (ms2 := 0) dX10_takeNumber_13 cw10_87 (by decide) rfl rfl (Nat.le_of_ble_eq_true rfl) rfl rfl (ok_X10_in (fun i1 i2 => ?_) (fun i3 => ?_))
    · skip
      refine go_if_ne (tgt := 29) dX10_takeNumber_16 rfl (fun c4 => ?_) (fun c4 => ?_)
      · refine go_aload_n 1 dX10_takeNumber_29 rfl rfl ?_
        refine go_aload_n 1 dX10_takeNumber_30 rfl rfl ?_
        refine gx_getI (v := (((numB (fun j => M 290 j) n p) : Nat) : Int)) dX10_takeNumber_31 lk10_101.get kd_279 (by omega) rfl up2_same ?_
        refine go_putI dX10_takeNumber_34 (Or.inl lk10_116) kd_279 (by omega) rfl (Or.inl rfl) ?_
        refine go_aload_n 1 dX10_takeNumber_37 rfl rfl ?_
        refine go_iconst dX10_takeNumber_38 (by decide) ?_
        refine go_putI dX10_takeNumber_39 (Or.inl lk10_119) kd_279 (by omega) rfl (Or.inl rfl) ?_
        refine go_lv [0, 1, 2, 3] rfl ?_
        have hE : (numE (fun j => M 290 j) n p) = dig (fun j => M 290 j) n ((numB (fun j => M 290 j) n p) + 1) := dig_go (T := (fun j => M 290 j)) (n := n) (p := (numB (fun j => M 290 j) n p)) (by omega) (by omega)
        have hE2 := (dig_in (T := (fun j => M 290 j)) (n := n) (p := (numB (fun j => M 290 j) n p) + 1) (by omega)).1
        exact lp_X10_takeNumber hn hp h240 hpn ht gF gS (by omega) (n + 1) 0 (by omega) (by omega) (fun j hj => absurd hj (by omega)) rfl _ ((((FN.rf M).up (by omega)).up (by omega)).up (by omega)) ((up2_ne (by omega)).trans ((up2_ne (by omega)).trans up2_same)) up2_same ((up2_ne (by omega)).trans up2_same)
      · exact absurd c4 (by decide)
    · skip
      refine go_if_ne (tgt := 29) dX10_takeNumber_16 rfl (fun c5 => ?_) (fun c5 => ?_)
      · exact absurd c5 (by decide)
      · refine go_aload_n 1 dX10_takeNumber_19 rfl rfl ?_
        refine go_iconst dX10_takeNumber_20 (by decide) ?_
        refine go_aload_n 1 dX10_takeNumber_21 rfl rfl ?_
        refine gx_getI (v := (((numB (fun j => M 290 j) n p) : Nat) : Int)) dX10_takeNumber_22 lk10_101.get kd_279 (by omega) rfl up2_same ?_
        refine go_callVI (av := [vI 1, vI (((numB (fun j => M 290 j) n p) : Nat) : Int)]) (st := []) (a := 279) (mc2 := 0) (ms2 := 0) dX10_takeNumber_25 cw10_112 (by decide) rfl rfl (Nat.le_of_ble_eq_true rfl) rfl rfl kd_279 ⟨_, _, rfl⟩ (by decide) (by omega) (ok_X10_fails ?_)
        refine go_iret dX10_takeNumber_28 rfl rfl ⟨_, rfl, ?_⟩
        have hE : (numE (fun j => M 290 j) n p) = (numB (fun j => M 290 j) n p) := dig_no (T := (fun j => M 290 j)) (n := n) (p := (numB (fun j => M 290 j) n p)) (by omega)
        have h1 : (nF (fun j => M 290 j) n p lo hi) = 1 := by unfold nF numF; rw [if_pos hE]
        rw [h1] at gF
        exact gF (by decide) _ (((F4.rf M).up (by omega)).up (by omega)) up2_same
  · change ¬ (numB (fun j => M 290 j) n p) < n at q0
    refine go_istore_n (lv' := [(3, vI (-1)), (0, vR 279), (1, vI lo), (2, vI hi)]) dX10_takeNumber_4 rfl (by decide) rfl ?_
    refine go_iload_n 0 dX10_takeNumber_5 rfl rfl ?_
    refine go_i2l dX10_takeNumber_6 ?_
    refine go_ldc2 dX10_takeNumber_7 jk10_108 (by decide) ?_
    refine go_ldc2 dX10_takeNumber_10 jk10_110 (by decide) ?_
    refine go_callSI (av := [vL (-1), vL 48, vL 57]) (st := []) (mc2 := 0) (ms2 := 0) dX10_takeNumber_13 cw10_87 (by decide) rfl rfl (Nat.le_of_ble_eq_true rfl) rfl rfl (ok_X10_in (fun i6 i7 => ?_) (fun i8 => ?_))
    · skip
      refine go_if_ne (tgt := 29) dX10_takeNumber_16 rfl (fun c9 => ?_) (fun c9 => ?_)
      · refine go_aload_n 1 dX10_takeNumber_29 rfl rfl ?_
        refine go_aload_n 1 dX10_takeNumber_30 rfl rfl ?_
        refine gx_getI (v := (((numB (fun j => M 290 j) n p) : Nat) : Int)) dX10_takeNumber_31 lk10_101.get kd_279 (by omega) rfl up2_same ?_
        refine go_putI dX10_takeNumber_34 (Or.inl lk10_116) kd_279 (by omega) rfl (Or.inl rfl) ?_
        refine go_aload_n 1 dX10_takeNumber_37 rfl rfl ?_
        refine go_iconst dX10_takeNumber_38 (by decide) ?_
        refine go_putI dX10_takeNumber_39 (Or.inl lk10_119) kd_279 (by omega) rfl (Or.inl rfl) ?_
        refine go_lv [0, 1, 2, 3] rfl ?_
        have hE : (numE (fun j => M 290 j) n p) = dig (fun j => M 290 j) n ((numB (fun j => M 290 j) n p) + 1) := dig_go (T := (fun j => M 290 j)) (n := n) (p := (numB (fun j => M 290 j) n p)) (by omega) (by omega)
        have hE2 := (dig_in (T := (fun j => M 290 j)) (n := n) (p := (numB (fun j => M 290 j) n p) + 1) (by omega)).1
        exact lp_X10_takeNumber hn hp h240 hpn ht gF gS (by omega) (n + 1) 0 (by omega) (by omega) (fun j hj => absurd hj (by omega)) rfl _ ((((FN.rf M).up (by omega)).up (by omega)).up (by omega)) ((up2_ne (by omega)).trans ((up2_ne (by omega)).trans up2_same)) up2_same ((up2_ne (by omega)).trans up2_same)
      · exact absurd c9 (by decide)
    · skip
      refine go_if_ne (tgt := 29) dX10_takeNumber_16 rfl (fun c10 => ?_) (fun c10 => ?_)
      · exact absurd c10 (by decide)
      · refine go_aload_n 1 dX10_takeNumber_19 rfl rfl ?_
        refine go_iconst dX10_takeNumber_20 (by decide) ?_
        refine go_aload_n 1 dX10_takeNumber_21 rfl rfl ?_
        refine gx_getI (v := (((numB (fun j => M 290 j) n p) : Nat) : Int)) dX10_takeNumber_22 lk10_101.get kd_279 (by omega) rfl up2_same ?_
        refine go_callVI (av := [vI 1, vI (((numB (fun j => M 290 j) n p) : Nat) : Int)]) (st := []) (a := 279) (mc2 := 0) (ms2 := 0) dX10_takeNumber_25 cw10_112 (by decide) rfl rfl (Nat.le_of_ble_eq_true rfl) rfl rfl kd_279 ⟨_, _, rfl⟩ (by decide) (by omega) (ok_X10_fails ?_)
        refine go_iret dX10_takeNumber_28 rfl rfl ⟨_, rfl, ?_⟩
        have hE : (numE (fun j => M 290 j) n p) = (numB (fun j => M 290 j) n p) := dig_no (T := (fun j => M 290 j)) (n := n) (p := (numB (fun j => M 290 j) n p)) (by omega)
        have h1 : (nF (fun j => M 290 j) n p lo hi) = 1 := by unfold nF numF; rw [if_pos hE]
        rw [h1] at gF
        exact gF (by decide) _ (((F4.rf M).up (by omega)).up (by omega)) up2_same

set_option maxHeartbeats 4000000 in
set_option maxRecDepth 100000 in
theorem tn_T {w n p : Nat} {lo hi : Int} {M : inm} {T : Nat → Int} {Q : Int → Nat → rfm → inm → Prop} (hT : (fun j => M 290 j) = T) (hn : M 279 18 = (n : Int)) (hp : M 279 20 = (p : Int)) (h240 : n ≤ 240) (hpn : p ≤ n) (ht : ∀ j, j < n → 0 ≤ T j ∧ T j ≤ 255) (gF : ¬ (nF T n p lo hi) = 0 → ∀ M' : inm, F4 M M' → M' 279 19 = ((numB T n p : Nat) : Int) → Q (nF T n p lo hi) 303 (PP w) M') (gS : (nF T n p lo hi) = 0 → ∀ M' : inm, FN M M' → M' 279 20 = ((numE T n p : Nat) : Int) → M' 279 21 = nV T n p → Q 0 303 (PP w) M') : OkI yX10_takeNumber cX10_takeNumber 4 1 0 0 (some .int) [vR 279, vI lo, vI hi] 303 (PP w) M Q := by
  subst hT
  exact ok_X10_takeNumber hn hp h240 hpn ht gF gS
theorem here_T {w n p : Nat} {M : inm} {T : Nat → Int} {Q : Int → Nat → rfm → inm → Prop} (hT : (fun j => M 290 j) = T) (hn : M 279 18 = (n : Int)) (hp : M 279 20 = (p : Int)) (h240 : n ≤ 240) (hpn : p ≤ n) (g1 : skp T n p < n → Q (T (skp T n p)) 303 (PP w) (up2 M 279 20 ((skp T n p : Nat) : Int))) (g0 : ¬ skp T n p < n → Q (-1) 303 (PP w) (up2 M 279 20 ((skp T n p : Nat) : Int))) : OkI yX10_here cX10_here 1 0 0 0 (some .int) [vR 279] 303 (PP w) M Q := by
  subst hT
  exact ok_X10_here hn hp h240 hpn g1 g0

