/-! ===== Reader ===== -/
def skpF (T : Nat → Int) (n : Nat) : Nat → Nat → Nat
  | 0, p => p
  | d + 1, p => if p < n ∧ T p = 32 then skpF T n d (p + 1) else p
/-- behind the blanks from p on -/
def skp (T : Nat → Int) (n p : Nat) : Nat := skpF T n (n - p) p
def digF (T : Nat → Int) (n : Nat) : Nat → Nat → Nat
  | 0, p => p
  | d + 1, p => if p < n ∧ 48 ≤ T p ∧ T p ≤ 57 then digF T n d (p + 1) else p
/-- behind the figures from p on -/
def dig (T : Nat → Int) (n p : Nat) : Nat := digF T n (n - p) p
/-- the number of the first three of k figures -/
def dv (T : Nat → Int) (p : Nat) : Nat → Int
  | 0 => 0
  | k + 1 => if k < 3 then dv T p k * 10 + T (p + k) - 48 else dv T p k
theorem skpF_in {T : Nat → Int} {n : Nat} : ∀ d p, p ≤ skpF T n d p ∧ (p ≤ n → skpF T n d p ≤ n)
  | 0, p => ⟨Nat.le_refl p, id⟩
  | d + 1, p => by
    rw [skpF]
    split
    · next h => exact ⟨by have := (skpF_in (T := T) (n := n) d (p + 1)).1; omega, fun _ => (skpF_in d (p + 1)).2 (by omega)⟩
    · exact ⟨Nat.le_refl p, id⟩
theorem digF_in {T : Nat → Int} {n : Nat} : ∀ d p, p ≤ digF T n d p ∧ (p ≤ n → digF T n d p ≤ n)
  | 0, p => ⟨Nat.le_refl p, id⟩
  | d + 1, p => by
    rw [digF]
    split
    · next h => exact ⟨by have := (digF_in (T := T) (n := n) d (p + 1)).1; omega, fun _ => (digF_in d (p + 1)).2 (by omega)⟩
    · exact ⟨Nat.le_refl p, id⟩
theorem skp_in {T : Nat → Int} {n p : Nat} (h : p ≤ n) : p ≤ skp T n p ∧ skp T n p ≤ n := ⟨(skpF_in _ p).1, (skpF_in _ p).2 h⟩
theorem dig_in {T : Nat → Int} {n p : Nat} (h : p ≤ n) : p ≤ dig T n p ∧ dig T n p ≤ n := ⟨(digF_in _ p).1, (digF_in _ p).2 h⟩
theorem skp_go {T : Nat → Int} {n p : Nat} (h : p < n) (h2 : T p = 32) : skp T n p = skp T n (p + 1) := by
  unfold skp
  rw [show n - p = (n - (p + 1)) + 1 by omega, skpF, if_pos ⟨h, h2⟩]
theorem skp_no {T : Nat → Int} {n p : Nat} (h : ¬ (p < n ∧ T p = 32)) : skp T n p = p := by
  unfold skp
  cases hd : n - p with
  | zero => rfl
  | succ d => rw [skpF, if_neg h]
theorem dig_go {T : Nat → Int} {n p : Nat} (h : p < n) (h2 : 48 ≤ T p ∧ T p ≤ 57) : dig T n p = dig T n (p + 1) := by
  unfold dig
  rw [show n - p = (n - (p + 1)) + 1 by omega, digF, if_pos ⟨h, h2⟩]
theorem dig_no {T : Nat → Int} {n p : Nat} (h : ¬ (p < n ∧ 48 ≤ T p ∧ T p ≤ 57)) : dig T n p = p := by
  unfold dig
  cases hd : n - p with
  | zero => rfl
  | succ d => rw [digF, if_neg h]
theorem dv_in {T : Nat → Int} {p : Nat} : ∀ k, (∀ j, j < k → 48 ≤ T (p + j) ∧ T (p + j) ≤ 57) → 0 ≤ dv T p k ∧ (k ≤ 3 → dv T p k < 10 ^ k) ∧ dv T p k ≤ 999
  | 0, _ => ⟨Int.le_refl 0, fun _ => by show (0 : Int) < 1; omega, by show (0 : Int) ≤ 999; omega⟩
  | k + 1, h => by
    have ih := dv_in (T := T) (p := p) k (fun j hj => h j (by omega))
    have h1 := h k (by omega)
    rw [dv]
    split
    · next hk =>
      have h2 := ih.2.1 (by omega)
      have h3 : (10 : Int) ^ (k + 1) = 10 ^ k * 10 := Int.pow_succ 10 k
      have h4 : (10 : Int) ^ k ≤ 100 := by
        rcases (show k = 0 ∨ k = 1 ∨ k = 2 by omega) with rfl | rfl | rfl <;> decide
      refine ⟨by omega, fun _ => by rw [h3]; omega, by omega⟩
    · exact ⟨ih.1, fun hk => absurd hk (by omega), ih.2.2⟩
theorem up2_self {M : inm} {a j : Nat} {z : Int} (h : M a j = z) : up2 M a j z = M := by
  funext x i
  unfold up2
  split
  · next q => rw [q.1, q.2, h]
  · rfl
theorem up2_up {M : inm} {a j : Nat} {y z : Int} : up2 (up2 M a j y) a j z = up2 M a j z := by
  funext x i
  unfold up2
  split <;> rfl
def mBlame (M : inm) (f z : Int) : inm := if M 1 4 = 0 then up2 (up2 M 1 4 f) 1 5 z else M
set_option maxHeartbeats 4000000 in
set_option maxRecDepth 100000 in
theorem ok_X7_here {w n p : Nat} {M : inm} {Q : Int → Nat → rfm → inm → Prop} (hn : M 1 2 = (n : Int)) (hp : M 1 3 = (p : Int)) (h240 : n ≤ 240) (hpn : p ≤ n) (h1 : p < n → Q (M 2 p) 303 (PP w) M) (h0 : p = n → Q (-1) 303 (PP w) M) : OkI yX7_here cX7_here 1 0 0 0 (some .int) [vR 1] 303 (PP w) M Q := by
  refine OkI.of (by decide +kernel) (by decide +kernel) (Nat.le_of_ble_eq_true rfl) ?_
  refine go_eq (lv' := [(0, vR 1)]) rfl rfl rfl rfl rfl ?_
  refine go_aload_n 0 dX7_here_0 rfl rfl ?_
  refine gx_getI (v := ((p : Nat) : Int)) dX7_here_1 lk7_22.get kd_1 (by omega) rfl hp ?_
  refine go_aload_n 0 dX7_here_4 rfl rfl ?_
  refine gx_getI (v := ((n : Nat) : Int)) dX7_here_5 lk7_18.get kd_1 (by omega) rfl hn ?_
  refine go_icmp_ge (tgt := 23) dX7_here_8 rfl (fun c1 => ?_) (fun c1 => ?_)
  · refine go_iconst dX7_here_23 (by decide) ?_
    refine go_iret dX7_here_24 rfl rfl ⟨_, rfl, ?_⟩
    first | exact h1 (by omega) | exact h0 (by omega)
  · refine go_aload_n 0 dX7_here_11 rfl rfl ?_
    refine go_getR (r := 2) dX7_here_12 lk7_9.get kd_1 (by omega) rfl (pp_1_0 w) ?_
    refine go_aload_n 0 dX7_here_15 rfl rfl ?_
    refine gx_getI (v := ((p : Nat) : Int)) dX7_here_16 lk7_22.get kd_1 (by omega) rfl hp ?_
    refine gx_iaload (v := (M 2 p)) p dX7_here_19 kd_2 (by omega) ln_2 rfl (by omega) rfl ?_
    refine go_goto (tgt := 24) dX7_here_20 rfl ?_
    refine go_iret dX7_here_24 rfl rfl ⟨_, rfl, ?_⟩
    first | exact h1 (by omega) | exact h0 (by omega)

set_option maxHeartbeats 4000000 in
set_option maxRecDepth 100000 in
theorem ok_X7_blame {w : Nat} {f z : Int} {M : inm} {Q : Nat → rfm → inm → Prop} (hQ : Q 303 (PP w) (mBlame M f z)) : OkV yX7_blame cX7_blame 3 0 0 0 [vR 1, vI f, vI z] 303 (PP w) M Q := by
  refine OkV.of (by decide +kernel) (by decide +kernel) (Nat.le_of_ble_eq_true rfl) ?_
  refine go_eq (lv' := [(0, vR 1), (1, vI f), (2, vI z)]) rfl rfl rfl rfl rfl ?_
  refine go_aload_n 0 dX7_blame_0 rfl rfl ?_
  refine gx_getI (v := (M 1 4)) dX7_blame_1 lk7_25.get kd_1 (by omega) rfl rfl ?_
  refine go_if_ne (tgt := 17) dX7_blame_4 rfl (fun c1 => ?_) (fun c1 => ?_)
  · refine go_ret dX7_blame_17 rfl ⟨rfl, ?_⟩
    rw [mBlame] at hQ
    first | (rw [if_pos (by omega)] at hQ; exact hQ) | (rw [if_neg (by omega)] at hQ; exact hQ)
  · refine go_aload_n 0 dX7_blame_7 rfl rfl ?_
    refine go_iload_n 1 dX7_blame_8 rfl rfl ?_
    refine go_putI dX7_blame_9 (Or.inl lk7_25) kd_1 (by omega) rfl (Or.inl rfl) ?_
    refine go_aload_n 0 dX7_blame_12 rfl rfl ?_
    refine go_iload_n 2 dX7_blame_13 rfl rfl ?_
    refine go_putI dX7_blame_14 (Or.inl lk7_28) kd_1 (by omega) rfl (Or.inl rfl) ?_
    refine go_ret dX7_blame_17 rfl ⟨rfl, ?_⟩
    rw [mBlame] at hQ
    first | (rw [if_pos (by omega)] at hQ; exact hQ) | (rw [if_neg (by omega)] at hQ; exact hQ)

set_option maxHeartbeats 4000000 in
set_option maxRecDepth 100000 in
theorem lp_X7_skipBlanks {w n : Nat} {M : inm} {Q : Nat → rfm → inm → Prop} (hn : M 1 2 = (n : Int)) (h240 : n ≤ 240) : ∀ d p, n < p + d → p ≤ n → Q 303 (PP w) (up2 M 1 3 ((skp (fun j => M 2 j) n p : Nat) : Int)) → Go S0 yX7_skipBlanks cX7_skipBlanks 1 0 0 0 none 0 [(0, vR 1)] [] 303 (PP w) (up2 M 1 3 ((p : Nat) : Int)) (fun v n P M => v = none ∧ Q n P M) := by
  intro d
  induction d with
  | zero => intro p h1 h2; exfalso; omega
  | succ d ih =>
    intro p h1 h2 hQ
    refine go_aload_n 0 dX7_skipBlanks_0 rfl rfl ?_
    refine gx_getI (v := ((p : Nat) : Int)) dX7_skipBlanks_1 lk7_22.get kd_1 (by omega) rfl up2_same ?_
    refine go_aload_n 0 dX7_skipBlanks_4 rfl rfl ?_
    refine gx_getI (v := ((n : Nat) : Int)) dX7_skipBlanks_5 lk7_18.get kd_1 (by omega) rfl ((up2_ne (by omega)).trans hn) ?_
    refine go_icmp_ge (tgt := 38) dX7_skipBlanks_8 rfl (fun c1 => ?_) (fun c1 => ?_)
    · refine go_ret dX7_skipBlanks_38 rfl ⟨rfl, ?_⟩
      rw [skp_no (by omega)] at hQ
      exact hQ
    · refine go_aload_n 0 dX7_skipBlanks_11 rfl rfl ?_
      refine go_getR (r := 2) dX7_skipBlanks_12 lk7_9.get kd_1 (by omega) rfl (pp_1_0 w) ?_
      refine go_aload_n 0 dX7_skipBlanks_15 rfl rfl ?_
      refine gx_getI (v := ((p : Nat) : Int)) dX7_skipBlanks_16 lk7_22.get kd_1 (by omega) rfl up2_same ?_
      refine gx_iaload (v := (M 2 p)) p dX7_skipBlanks_19 kd_2 (by omega) ln_2 rfl (by omega) (up2_ne (by omega)) ?_
      refine go_bipush dX7_skipBlanks_20 (by decide) (by decide) ?_
      refine go_icmp_ne (tgt := 38) dX7_skipBlanks_22 rfl (fun c2 => ?_) (fun c2 => ?_)
      · refine go_ret dX7_skipBlanks_38 rfl ⟨rfl, ?_⟩
        rw [skp_no (by omega)] at hQ
        exact hQ
      · refine go_aload_n 0 dX7_skipBlanks_25 rfl rfl ?_
        refine go_dup dX7_skipBlanks_26 rfl ?_
        refine gx_getI (v := ((p : Nat) : Int)) dX7_skipBlanks_27 lk7_22.get kd_1 (by omega) rfl up2_same ?_
        refine go_iconst dX7_skipBlanks_30 (by decide) ?_
        refine gx_iadd (v := ((p + 1 : Nat) : Int)) dX7_skipBlanks_31 (by omega) ⟨by omega, by omega⟩ ?_
        refine go_putI dX7_skipBlanks_32 (Or.inl lk7_22) kd_1 (by omega) rfl (Or.inl rfl) ?_
        refine go_goto (tgt := 0) dX7_skipBlanks_35 rfl ?_
        rw [skp_go (by omega) (by assumption)] at hQ
        rw [up2_up]
        exact ih (p + 1) (by omega) (by omega) hQ

set_option maxHeartbeats 4000000 in
set_option maxRecDepth 100000 in
theorem ok_X7_skipBlanks {w n p : Nat} {M : inm} {Q : Nat → rfm → inm → Prop} (hn : M 1 2 = (n : Int)) (hp : M 1 3 = (p : Int)) (h240 : n ≤ 240) (hpn : p ≤ n) (hQ : Q 303 (PP w) (up2 M 1 3 ((skp (fun j => M 2 j) n p : Nat) : Int))) : OkV yX7_skipBlanks cX7_skipBlanks 1 0 0 0 [vR 1] 303 (PP w) M Q := by
  refine OkV.of (by decide +kernel) (by decide +kernel) (Nat.le_of_ble_eq_true rfl) ?_
  refine go_eq (lv' := [(0, vR 1)]) rfl rfl rfl rfl (M' := up2 M 1 3 ((p : Nat) : Int)) (up2_self hp).symm ?_
  exact lp_X7_skipBlanks hn h240 (n + 1) p (by omega) hpn hQ

/-- a NUMBER read: behind the blanks at b, its figures end at e; then the blanks -/
def numF (T : Nat → Int) (b e : Nat) (lo hi : Int) : Int := if e = b then 1 else if 3 < e - b ∨ dv T b (e - b) < lo ∨ hi < dv T b (e - b) then 2 else 0
def mNum (M : inm) (n p : Nat) (lo hi : Int) : inm := up2 (if numF (fun j => M 2 j) (skp (fun j => M 2 j) n p) (dig (fun j => M 2 j) n (skp (fun j => M 2 j) n p)) lo hi = 0 then up2 M 1 3 (((dig (fun j => M 2 j) n (skp (fun j => M 2 j) n p)) : Nat) : Int) else mBlame (up2 M 1 3 (((dig (fun j => M 2 j) n (skp (fun j => M 2 j) n p)) : Nat) : Int)) (numF (fun j => M 2 j) (skp (fun j => M 2 j) n p) (dig (fun j => M 2 j) n (skp (fun j => M 2 j) n p)) lo hi) (((skp (fun j => M 2 j) n p) : Nat) : Int)) 1 3 (((skp (fun j => M 2 j) n (dig (fun j => M 2 j) n (skp (fun j => M 2 j) n p))) : Nat) : Int)
def numV (M : inm) (n p : Nat) : Int := dv (fun j => M 2 j) (skp (fun j => M 2 j) n p) ((dig (fun j => M 2 j) n (skp (fun j => M 2 j) n p)) - (skp (fun j => M 2 j) n p))
set_option maxHeartbeats 4000000 in
set_option maxRecDepth 100000 in
theorem lp_X7_readNumber {w n p : Nat} {lo hi : Int} {M : inm} {Q : Int → Nat → rfm → inm → Prop} (hn : M 1 2 = (n : Int)) (hp : M 1 3 = (p : Int)) (h240 : n ≤ 240) (hpn : p ≤ n) (ht : ∀ j, j < n → 0 ≤ M 2 j ∧ M 2 j ≤ 255) (kk : ∀ k, (skp (fun j => M 2 j) n p) + k ≤ n → (skp (fun j => M 2 j) n p) ≤ (skp (fun j => M 2 j) n p) + k → dig (fun j => M 2 j) n (skp (fun j => M 2 j) n p) = (skp (fun j => M 2 j) n p) + k → (∀ j, j < k → 48 ≤ M 2 ((skp (fun j => M 2 j) n p) + j) ∧ M 2 ((skp (fun j => M 2 j) n p) + j) ≤ 57) → Go S0 yX7_readNumber cX7_readNumber 5 1 0 0 (some .int) 94 [(4, vI (dv (fun j => M 2 j) (skp (fun j => M 2 j) n p) k)), (3, vI (((skp (fun j => M 2 j) n p) : Nat) : Int)), (0, vR 1), (1, vI lo), (2, vI hi)] [] 303 (PP w) (up2 M 1 3 (((skp (fun j => M 2 j) n p) + k : Nat) : Int)) (fun v n P M => ∃ z, v = some (vI z) ∧ Q z n P M)) : ∀ d k, n < (skp (fun j => M 2 j) n p) + k + d → (skp (fun j => M 2 j) n p) + k ≤ n → (∀ j, j < k → 48 ≤ M 2 ((skp (fun j => M 2 j) n p) + j) ∧ M 2 ((skp (fun j => M 2 j) n p) + j) ≤ 57) → dig (fun j => M 2 j) n (skp (fun j => M 2 j) n p) = dig (fun j => M 2 j) n ((skp (fun j => M 2 j) n p) + k) → Go S0 yX7_readNumber cX7_readNumber 5 1 0 0 (some .int) 12 [(4, vI (dv (fun j => M 2 j) (skp (fun j => M 2 j) n p) k)), (3, vI (((skp (fun j => M 2 j) n p) : Nat) : Int)), (0, vR 1), (1, vI lo), (2, vI hi)] [] 303 (PP w) (up2 M 1 3 (((skp (fun j => M 2 j) n p) + k : Nat) : Int)) (fun v n P M => ∃ z, v = some (vI z) ∧ Q z n P M) := by
  have hb := skp_in (T := (fun j => M 2 j)) hpn
  intro d
  induction d with
  | zero => intro k h1 h2; exfalso; omega
  | succ d ih =>
    intro k h1 h2 hd hk
    have hdv := dv_in (T := (fun j => M 2 j)) (p := (skp (fun j => M 2 j) n p)) k hd
    refine go_aload_n 2 dX7_readNumber_12 rfl rfl ?_
    refine gx_getI (v := (((skp (fun j => M 2 j) n p) + k : Nat) : Int)) dX7_readNumber_13 lk7_22.get kd_1 (by omega) rfl up2_same ?_
    refine go_aload_n 2 dX7_readNumber_16 rfl rfl ?_
    refine gx_getI (v := ((n : Nat) : Int)) dX7_readNumber_17 lk7_18.get kd_1 (by omega) rfl ((up2_ne (by omega)).trans hn) ?_
    refine go_icmp_ge (tgt := 94) dX7_readNumber_20 rfl (fun c1 => ?_) (fun c1 => ?_)
    · refine go_lv [0, 1, 2, 3, 4] rfl ?_
      exact kk k (by omega) (by omega) (hk.trans (dig_no (by omega))) hd
    · refine go_aload_n 2 dX7_readNumber_23 rfl rfl ?_
      refine go_getR (r := 2) dX7_readNumber_24 lk7_9.get kd_1 (by omega) rfl (pp_1_0 w) ?_
      refine go_aload_n 2 dX7_readNumber_27 rfl rfl ?_
      refine gx_getI (v := (((skp (fun j => M 2 j) n p) + k : Nat) : Int)) dX7_readNumber_28 lk7_22.get kd_1 (by omega) rfl up2_same ?_
      have f2 := ht ((skp (fun j => M 2 j) n p) + k) (by omega)
      refine gx_iaload (v := (M 2 ((skp (fun j => M 2 j) n p) + k))) ((skp (fun j => M 2 j) n p) + k) dX7_readNumber_31 kd_2 (by omega) ln_2 rfl (by omega) (up2_ne (by omega)) ?_
      refine go_bipush dX7_readNumber_32 (by decide) (by decide) ?_
      refine go_icmp_lt (tgt := 94) dX7_readNumber_34 rfl (fun c3 => ?_) (fun c3 => ?_)
      · refine go_lv [0, 1, 2, 3, 4] rfl ?_
        exact kk k (by omega) (by omega) (hk.trans (dig_no (by omega))) hd
      · refine go_aload_n 2 dX7_readNumber_37 rfl rfl ?_
        refine go_getR (r := 2) dX7_readNumber_38 lk7_9.get kd_1 (by omega) rfl (pp_1_0 w) ?_
        refine go_aload_n 2 dX7_readNumber_41 rfl rfl ?_
        refine gx_getI (v := (((skp (fun j => M 2 j) n p) + k : Nat) : Int)) dX7_readNumber_42 lk7_22.get kd_1 (by omega) rfl up2_same ?_
        have f4 := ht ((skp (fun j => M 2 j) n p) + k) (by omega)
        refine gx_iaload (v := (M 2 ((skp (fun j => M 2 j) n p) + k))) ((skp (fun j => M 2 j) n p) + k) dX7_readNumber_45 kd_2 (by omega) ln_2 rfl (by omega) (up2_ne (by omega)) ?_
        refine go_bipush dX7_readNumber_46 (by decide) (by decide) ?_
        refine go_icmp_gt (tgt := 94) dX7_readNumber_48 rfl (fun c5 => ?_) (fun c5 => ?_)
        · refine go_lv [0, 1, 2, 3, 4] rfl ?_
          exact kk k (by omega) (by omega) (hk.trans (dig_no (by omega))) hd
        · refine go_aload_n 2 dX7_readNumber_51 rfl rfl ?_
          refine gx_getI (v := (((skp (fun j => M 2 j) n p) + k : Nat) : Int)) dX7_readNumber_52 lk7_22.get kd_1 (by omega) rfl up2_same ?_
          refine go_iload_n 1 dX7_readNumber_55 rfl rfl ?_
          refine gx_isub (v := ((k : Nat) : Int)) dX7_readNumber_56 (by omega) ⟨by omega, by omega⟩ ?_
          refine go_iconst dX7_readNumber_57 (by decide) ?_
          refine go_icmp_ge (tgt := 81) dX7_readNumber_58 rfl (fun c6 => ?_) (fun c6 => ?_)
          · refine go_aload_n 2 dX7_readNumber_81 rfl rfl ?_
            refine go_dup dX7_readNumber_82 rfl ?_
            refine gx_getI (v := (((skp (fun j => M 2 j) n p) + k : Nat) : Int)) dX7_readNumber_83 lk7_22.get kd_1 (by omega) rfl up2_same ?_
            refine go_iconst dX7_readNumber_86 (by decide) ?_
            refine gx_iadd (v := (((skp (fun j => M 2 j) n p) + k + 1 : Nat) : Int)) dX7_readNumber_87 (by omega) ⟨by omega, by omega⟩ ?_
            refine go_putI dX7_readNumber_88 (Or.inl lk7_22) kd_1 (by omega) rfl (Or.inl rfl) ?_
            refine go_goto (tgt := 12) dX7_readNumber_91 rfl ?_
            refine go_lv [0, 1, 2, 3, 4] rfl ?_
            have he : (dv (fun j => M 2 j) (skp (fun j => M 2 j) n p) k) = dv (fun j => M 2 j) (skp (fun j => M 2 j) n p) (k + 1) := by rw [dv]; first | (rw [if_pos (by omega)]; done) | (rw [if_neg (by omega)]; done)
            rw [he, up2_up]
            exact ih (k + 1) (by omega) (by omega) (fun j hj => by by_cases hjk : j = k; (rw [hjk]; omega); exact hd j (by omega)) (hk.trans (dig_go (by omega) (by omega)))
          · refine go_iload 0 dX7_readNumber_61 rfl ?_
            refine go_bipush dX7_readNumber_63 (by decide) (by decide) ?_
            refine gx_imul (v := ((dv (fun j => M 2 j) (skp (fun j => M 2 j) n p) k) * 10)) dX7_readNumber_65 rfl ⟨by omega, by omega⟩ ?_
            refine go_aload_n 2 dX7_readNumber_66 rfl rfl ?_
            refine go_getR (r := 2) dX7_readNumber_67 lk7_9.get kd_1 (by omega) rfl (pp_1_0 w) ?_
            refine go_aload_n 2 dX7_readNumber_70 rfl rfl ?_
            refine gx_getI (v := (((skp (fun j => M 2 j) n p) + k : Nat) : Int)) dX7_readNumber_71 lk7_22.get kd_1 (by omega) rfl up2_same ?_
            have f7 := ht ((skp (fun j => M 2 j) n p) + k) (by omega)
            refine gx_iaload (v := (M 2 ((skp (fun j => M 2 j) n p) + k))) ((skp (fun j => M 2 j) n p) + k) dX7_readNumber_74 kd_2 (by omega) ln_2 rfl (by omega) (up2_ne (by omega)) ?_
            refine gx_iadd (v := (((dv (fun j => M 2 j) (skp (fun j => M 2 j) n p) k) * 10) + (M 2 ((skp (fun j => M 2 j) n p) + k)))) dX7_readNumber_75 rfl ⟨by omega, by omega⟩ ?_
            refine go_bipush dX7_readNumber_76 (by decide) (by decide) ?_
            refine gx_isub (v := ((((dv (fun j => M 2 j) (skp (fun j => M 2 j) n p) k) * 10) + (M 2 ((skp (fun j => M 2 j) n p) + k))) - 48)) dX7_readNumber_78 rfl ⟨by omega, by omega⟩ ?_
            refine go_istore (lv' := [(4, vI ((((dv (fun j => M 2 j) (skp (fun j => M 2 j) n p) k) * 10) + (M 2 ((skp (fun j => M 2 j) n p) + k))) - 48)), (3, vI (((skp (fun j => M 2 j) n p) : Nat) : Int)), (0, vR 1), (1, vI lo), (2, vI hi)]) dX7_readNumber_79 (by decide) rfl ?_
            refine go_aload_n 2 dX7_readNumber_81 rfl rfl ?_
            refine go_dup dX7_readNumber_82 rfl ?_
            refine gx_getI (v := (((skp (fun j => M 2 j) n p) + k : Nat) : Int)) dX7_readNumber_83 lk7_22.get kd_1 (by omega) rfl up2_same ?_
            refine go_iconst dX7_readNumber_86 (by decide) ?_
            refine gx_iadd (v := (((skp (fun j => M 2 j) n p) + k + 1 : Nat) : Int)) dX7_readNumber_87 (by omega) ⟨by omega, by omega⟩ ?_
            refine go_putI dX7_readNumber_88 (Or.inl lk7_22) kd_1 (by omega) rfl (Or.inl rfl) ?_
            refine go_goto (tgt := 12) dX7_readNumber_91 rfl ?_
            refine go_lv [0, 1, 2, 3, 4] rfl ?_
            have he : ((((dv (fun j => M 2 j) (skp (fun j => M 2 j) n p) k) * 10) + (M 2 ((skp (fun j => M 2 j) n p) + k))) - 48) = dv (fun j => M 2 j) (skp (fun j => M 2 j) n p) (k + 1) := by rw [dv]; first | (rw [if_pos (by omega)]; done) | (rw [if_neg (by omega)]; done)
            rw [he, up2_up]
            exact ih (k + 1) (by omega) (by omega) (fun j hj => by by_cases hjk : j = k; (rw [hjk]; omega); exact hd j (by omega)) (hk.trans (dig_go (by omega) (by omega)))

