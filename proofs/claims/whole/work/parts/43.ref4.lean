/-! ===== the reference: what its deeds write ===== -/
/-- N of the cell A from b on are those of f -/
def ovo (M : inm) (A b N : Nat) (f : Nat → Int) : inm := fun x j => if x = A ∧ b ≤ j ∧ j < b + N then f (j - b) else M x j
theorem ovo_0 {M : inm} {A b : Nat} {f : Nat → Int} : ovo M A b 0 f = M := by
  funext x j
  unfold ovo
  rw [if_neg (by omega)]
theorem ovo_in {M : inm} {A b N j : Nat} {f : Nat → Int} (h1 : b ≤ j) (h2 : j < b + N) : ovo M A b N f A j = f (j - b) := by
  unfold ovo
  rw [if_pos ⟨rfl, h1, h2⟩]
theorem ovo_out {M : inm} {A b N x j : Nat} {f : Nat → Int} (h : x ≠ A ∨ j < b ∨ b + N ≤ j) : ovo M A b N f x j = M x j := by
  unfold ovo
  rw [if_neg (by omega)]
theorem ovo_s {M : inm} {A b k i : Nat} {f : Nat → Int} {z : Int} (hi : i = b + k) (h : z = f k) : up2 (ovo M A b k f) A i z = ovo M A b (k + 1) f := by
  subst hi
  subst h
  funext x j
  unfold up2 ovo
  by_cases h1 : x = A ∧ j = b + k
  · rw [if_pos h1, if_pos (by omega), show j - b = k by omega]
  · rw [if_neg h1]
    by_cases h2 : x = A ∧ b ≤ j ∧ j < b + k
    · rw [if_pos h2, if_pos (by omega)]
    · rw [if_neg h2, if_neg (by omega)]
theorem ovo2_s {M : inm} {k : Nat} {f g : Nat → Int} {y z : Int} (hk : k < 12) (h1 : y = f k) (h2 : z = g k) : up2 (up2 (ovo (ovo M 284 1 k f) 284 13 k g) 284 (k + 1) y) 284 (k + 13) z = ovo (ovo M 284 1 (k + 1) f) 284 13 (k + 1) g := by
  have e : up2 (ovo (ovo M 284 1 k f) 284 13 k g) 284 (k + 1) y = ovo (ovo M 284 1 (k + 1) f) 284 13 k g := by
    rw [← ovo_s (M := M) (A := 284) (b := 1) (k := k) (i := k + 1) (f := f) (by omega) h1]
    funext x j
    unfold up2 ovo
    by_cases h3 : x = 284 ∧ j = k + 1
    · rw [if_pos h3, if_neg (by omega)]
      exact (if_pos h3).symm
    · rw [if_neg h3]
      by_cases h4 : x = 284 ∧ 13 ≤ j ∧ j < 13 + k
      · rw [if_pos h4, if_pos h4]
      · rw [if_neg h4, if_neg h4]
        exact (if_neg h3).symm
  rw [e, ovo_s (by omega) h2]
theorem cp2_s {M : inm} {a0 sp a1 dp k i j : Nat} (hi : i = dp + k) (hj : j = sp + k) (h : a0 ≠ a1 ∨ dp ≤ sp) : up2 (cp2 M a0 sp a1 dp k) a1 i (cp2 M a0 sp a1 dp k a0 j) = cp2 M a0 sp a1 dp (k + 1) := by
  subst hi
  subst hj
  rw [cp2_out (M := M) (x := a0) (j := sp + k) (by omega)]
  funext x q
  unfold up2 cp2
  by_cases h1 : x = a1 ∧ q = dp + k
  · rw [if_pos h1, if_pos (by omega), show sp + (q - dp) = sp + k by omega]
  · rw [if_neg h1]
    by_cases h2 : x = a1 ∧ dp ≤ q ∧ q < dp + k
    · rw [if_pos h2, if_pos (by omega)]
    · rw [if_neg h2, if_neg (by omega)]
theorem cp2_0 {M : inm} {a0 sp a1 dp : Nat} : cp2 M a0 sp a1 dp 0 = M := by
  funext x q
  unfold cp2
  rw [if_neg (by omega)]
/-- the layers behind k, each one place deeper -/
def gr (B : inm) (k L : Nat) : inm := fun x j => if x = 284 ∧ ((k + 2 ≤ j ∧ j < L + 2) ∨ (k + 14 ≤ j ∧ j < L + 14)) then B x (j - 1) else B x j
theorem gr_L {B : inm} {L : Nat} : gr B L L = B := by
  funext x j
  unfold gr
  rw [if_neg (by omega)]
theorem gr_out {B : inm} {k L x j : Nat} (h : x ≠ 284 ∨ ¬ ((k + 2 ≤ j ∧ j < L + 2) ∨ (k + 14 ≤ j ∧ j < L + 14))) : gr B k L x j = B x j := by
  unfold gr
  rw [if_neg (by omega)]
theorem gr_s {B : inm} {k L : Nat} (hk : k + 1 ≤ L) (hL : L ≤ 11) : up2 (up2 (gr B (k + 1) L) 284 (k + 2) (B 284 (k + 1))) 284 (k + 14) (B 284 (k + 13)) = gr B k L := by
  funext x j
  unfold up2 gr
  by_cases h1 : x = 284 ∧ j = k + 14
  · obtain ⟨rfl, rfl⟩ := h1
    rw [if_pos ⟨rfl, rfl⟩, if_pos (by omega), show k + 14 - 1 = k + 13 by omega]
  · rw [if_neg h1]
    by_cases h2 : x = 284 ∧ j = k + 2
    · obtain ⟨rfl, rfl⟩ := h2
      rw [if_pos ⟨rfl, rfl⟩, if_pos (by omega), show k + 2 - 1 = k + 1 by omega]
    · rw [if_neg h2]
      by_cases h3 : x = 284 ∧ ((k + 1 + 2 ≤ j ∧ j < L + 2) ∨ (k + 1 + 14 ≤ j ∧ j < L + 14))
      · rw [if_pos h3, if_pos (by omega)]
      · rw [if_neg h3, if_neg (by omega)]
def drawR (s : Int) : Int := (s * 1103515245 + 12345) % 2147483648
def rEmp (M : inm) : inm := up2 (ov M 284 125 (fun _ => 0)) 284 28 (-1)
set_option maxHeartbeats 4000000 in
set_option maxRecDepth 100000 in
theorem lp_X10_empties {w : Nat} {M : inm} {Q : Nat → rfm → inm → Prop} (hQ : Q 303 (PP w) (rEmp M)) : ∀ (d k : Nat), 125 < k + d → k ≤ 125 → Go S0 yX10_empties cX10_empties 2 0 0 0 none 2 [(1, vI ((k : Nat) : Int)), (0, vR 279)] [] 303 (PP w) (ov M 284 k (fun _ => 0)) (fun v n P M => v = none ∧ Q n P M) := by
  intro d
  induction d with
  | zero => intro k h1 h2; exfalso; omega
  | succ d ih =>
    intro k h1 h2
    refine go_iload_n 0 dX10_empties_2 rfl rfl ?_
    refine go_bipush dX10_empties_3 (by decide) (by decide) ?_
    refine go_icmp_ge (tgt := 21) dX10_empties_5 rfl (fun c1 => ?_) (fun c1 => ?_)
    · have hk : k = 125 := by omega
      subst hk
      refine go_lv [1] rfl ?_
      refine go_aload_n 0 dX10_empties_21 rfl rfl ?_
      refine go_getR (r := 284) dX10_empties_22 lk10_22.get kd_279 (by omega) rfl (pp_279_8 w) ?_
      refine go_bipush dX10_empties_25 (by decide) (by decide) ?_
      refine go_iconst dX10_empties_27 (by decide) ?_
      refine gx_iastore 28 dX10_empties_28 kd_284 (by omega) ln_284 (by omega) (by omega) ?_
      refine go_ret dX10_empties_29 rfl ⟨rfl, ?_⟩
      exact hQ
    · refine go_aload_n 1 dX10_empties_8 rfl rfl ?_
      refine go_getR (r := 284) dX10_empties_9 lk10_22.get kd_279 (by omega) rfl (pp_279_8 w) ?_
      refine go_iload_n 0 dX10_empties_12 rfl rfl ?_
      refine go_iconst dX10_empties_13 (by decide) ?_
      refine gx_iastore k dX10_empties_14 kd_284 (by omega) ln_284 rfl (by omega) ?_
      refine gx_iinc (v := ((k + 1 : Nat) : Int)) (lv' := [(1, vI ((k + 1 : Nat) : Int)), (0, vR 279)]) 0 dX10_empties_15 rfl (by omega) ⟨by omega, by omega⟩ (by decide) rfl ?_
      refine go_goto (tgt := 2) dX10_empties_18 rfl ?_
      have e2 : (up2 (ov M 284 k (fun _ => 0)) 284 k 0) = (ov M 284 (k + 1) (fun _ => 0)) := by exact ov_s rfl
      rw [e2]
      exact ih (k + 1) (by omega) (by omega)

set_option maxHeartbeats 4000000 in
set_option maxRecDepth 100000 in
theorem ok_X10_empties {w : Nat} {M : inm} {Q : Nat → rfm → inm → Prop} (hQ : Q 303 (PP w) (rEmp M)) : OkV yX10_empties cX10_empties 2 0 0 0 [vR 279] 303 (PP w) M Q := by
  refine OkV.of (by decide +kernel) (by decide +kernel) (Nat.le_of_ble_eq_true rfl) ?_
  refine go_eq (lv' := [(0, vR 279)]) rfl rfl rfl rfl rfl ?_
  refine go_iconst dX10_empties_0 (by decide) ?_
  refine go_istore_n (lv' := [(1, vI 0), (0, vR 279)]) dX10_empties_1 rfl (by decide) rfl ?_
  refine go_m (M' := ov M 284 0 (fun _ => 0)) ov_0.symm ?_
  exact lp_X10_empties hQ 126 0 (by omega) (by omega)

def rRem (M : inm) (u : Nat) : inm := if u = 30 then up2 (cp2 (up2 (cp2 M 297 125 297 0 3625) 279 33 29) 284 0 297 (125 * 29) 125) 279 33 30 else up2 (cp2 M 284 0 297 (125 * u) 125) 279 33 ((u + 1 : Nat) : Int)
set_option maxHeartbeats 4000000 in
set_option maxRecDepth 100000 in
theorem lp_X10_remember2 {w v : Nat} {B : inm} {Q : Nat → rfm → inm → Prop} (hB : B 279 33 = (v : Int)) (hv : v < 30) (hQ : Q 303 (PP w) (up2 (cp2 B 284 0 297 (125 * v) 125) 279 33 ((v + 1 : Nat) : Int))) : ∀ (d k : Nat), 125 < k + d → k ≤ 125 → Go S0 yX10_remember cX10_remember 2 0 0 0 none 52 [(1, vI ((k : Nat) : Int)), (0, vR 279)] [] 303 (PP w) (cp2 B 284 0 297 (125 * v) k) (fun v n P M => v = none ∧ Q n P M) := by
  intro d
  induction d with
  | zero => intro k h1 h2; exfalso; omega
  | succ d ih =>
    intro k h1 h2
    refine go_iload_n 0 dX10_remember_52 rfl rfl ?_
    refine go_bipush dX10_remember_53 (by decide) (by decide) ?_
    refine go_icmp_ge (tgt := 84) dX10_remember_55 rfl (fun c1 => ?_) (fun c1 => ?_)
    · have hk : k = 125 := by omega
      subst hk
      refine go_lv [1] rfl ?_
      refine go_aload_n 0 dX10_remember_84 rfl rfl ?_
      refine go_dup dX10_remember_85 rfl ?_
      refine gx_getI (v := ((v : Nat) : Int)) dX10_remember_86 lk10_179.get kd_279 (by omega) rfl (((cp2_ne (by omega)).trans hB)) ?_
      refine go_iconst dX10_remember_89 (by decide) ?_
      refine gx_iadd (v := ((v + 1 : Nat) : Int)) dX10_remember_90 (by omega) ⟨by omega, by omega⟩ ?_
      refine go_putI dX10_remember_91 (Or.inl lk10_179) kd_279 (by omega) rfl (Or.inl rfl) ?_
      refine go_ret dX10_remember_94 rfl ⟨rfl, ?_⟩
      exact hQ
    · refine go_aload_n 1 dX10_remember_58 rfl rfl ?_
      refine go_getR (r := 297) dX10_remember_59 lk10_65.get kd_279 (by omega) rfl (pp_279_34 w) ?_
      refine go_bipush dX10_remember_62 (by decide) (by decide) ?_
      refine go_aload_n 1 dX10_remember_64 rfl rfl ?_
      refine gx_getI (v := ((v : Nat) : Int)) dX10_remember_65 lk10_179.get kd_279 (by omega) rfl (((cp2_ne (by omega)).trans hB)) ?_
      refine gx_imul (v := ((125 * v : Nat) : Int)) dX10_remember_68 (by omega) ⟨by omega, by omega⟩ ?_
      refine go_iload_n 0 dX10_remember_69 rfl rfl ?_
      refine gx_iadd (v := (((125 * v) + k : Nat) : Int)) dX10_remember_70 (by omega) ⟨by omega, by omega⟩ ?_
      refine go_aload_n 1 dX10_remember_71 rfl rfl ?_
      refine go_getR (r := 284) dX10_remember_72 lk10_22.get kd_279 (by omega) rfl (pp_279_8 w) ?_
      refine go_iload_n 0 dX10_remember_75 rfl rfl ?_
      refine gx_iaload (v := ((cp2 B 284 0 297 (125 * v) k) 284 k)) k dX10_remember_76 kd_284 (by omega) ln_284 rfl (by omega) rfl ?_
      refine gx_iastore ((125 * v) + k) dX10_remember_77 kd_297 (by omega) ln_297 rfl (by omega) ?_
      refine gx_iinc (v := ((k + 1 : Nat) : Int)) (lv' := [(1, vI ((k + 1 : Nat) : Int)), (0, vR 279)]) 0 dX10_remember_78 rfl (by omega) ⟨by omega, by omega⟩ (by decide) rfl ?_
      refine go_goto (tgt := 52) dX10_remember_81 rfl ?_
      have e2 : (up2 (cp2 B 284 0 297 (125 * v) k) 297 ((125 * v) + k) ((cp2 B 284 0 297 (125 * v) k) 284 k)) = (cp2 B 284 0 297 (125 * v) (k + 1)) := by exact cp2_s (by omega) (by omega) (by omega)
      rw [e2]
      exact ih (k + 1) (by omega) (by omega)

set_option maxHeartbeats 4000000 in
set_option maxRecDepth 100000 in
theorem lp_X10_remember1 {w : Nat} {M : inm} {Q : Nat → rfm → inm → Prop} (hu : M 279 33 = 30) (hQ : Q 303 (PP w) (up2 (cp2 (up2 (cp2 M 297 125 297 0 3625) 279 33 29) 284 0 297 (125 * 29) 125) 279 33 30)) : ∀ (d k : Nat), 3625 < k + d → k ≤ 3625 → Go S0 yX10_remember cX10_remember 2 0 0 0 none 12 [(1, vI ((k + 125 : Nat) : Int)), (0, vR 279)] [] 303 (PP w) (cp2 M 297 125 297 0 k) (fun v n P M => v = none ∧ Q n P M) := by
  intro d
  induction d with
  | zero => intro k h1 h2; exfalso; omega
  | succ d ih =>
    intro k h1 h2
    refine go_iload_n 0 dX10_remember_12 rfl rfl ?_
    refine go_sipush dX10_remember_13 (by decide) (by decide) ?_
    refine go_icmp_ge (tgt := 40) dX10_remember_16 rfl (fun c1 => ?_) (fun c1 => ?_)
    · have hk : k = 3625 := by omega
      subst hk
      refine go_lv [1] rfl ?_
      refine go_aload_n 0 dX10_remember_40 rfl rfl ?_
      refine go_dup dX10_remember_41 rfl ?_
      refine gx_getI (v := 30) dX10_remember_42 lk10_179.get kd_279 (by omega) rfl ((cp2_ne (by omega)).trans hu) ?_
      refine go_iconst dX10_remember_45 (by decide) ?_
      refine gx_isub (v := 29) dX10_remember_46 rfl ⟨by omega, by omega⟩ ?_
      refine go_putI dX10_remember_47 (Or.inl lk10_179) kd_279 (by omega) rfl (Or.inl rfl) ?_
      refine go_iconst dX10_remember_50 (by decide) ?_
      refine go_istore_n (lv' := [(1, vI 0), (0, vR 279)]) dX10_remember_51 rfl (by decide) rfl ?_
      refine go_m (M' := cp2 (up2 (cp2 M 297 125 297 0 3625) 279 33 29) 284 0 297 (125 * 29) 0) cp2_0.symm ?_
      exact lp_X10_remember2 (v := 29) up2_same (by omega) hQ 126 0 (by omega) (by omega)
    · refine go_aload_n 1 dX10_remember_19 rfl rfl ?_
      refine go_getR (r := 297) dX10_remember_20 lk10_65.get kd_279 (by omega) rfl (pp_279_34 w) ?_
      refine go_iload_n 0 dX10_remember_23 rfl rfl ?_
      refine go_bipush dX10_remember_24 (by decide) (by decide) ?_
      refine gx_isub (v := ((k : Nat) : Int)) dX10_remember_26 (by omega) ⟨by omega, by omega⟩ ?_
      refine go_aload_n 1 dX10_remember_27 rfl rfl ?_
      refine go_getR (r := 297) dX10_remember_28 lk10_65.get kd_279 (by omega) rfl (pp_279_34 w) ?_
      refine go_iload_n 0 dX10_remember_31 rfl rfl ?_
      refine gx_iaload (v := ((cp2 M 297 125 297 0 k) 297 (k + 125))) (k + 125) dX10_remember_32 kd_297 (by omega) ln_297 rfl (by omega) rfl ?_
      refine gx_iastore k dX10_remember_33 kd_297 (by omega) ln_297 rfl (by omega) ?_
      refine gx_iinc (v := ((k + 126 : Nat) : Int)) (lv' := [(1, vI ((k + 126 : Nat) : Int)), (0, vR 279)]) 0 dX10_remember_34 rfl (by omega) ⟨by omega, by omega⟩ (by decide) rfl ?_
      refine go_goto (tgt := 12) dX10_remember_37 rfl ?_
      have e2 : (up2 (cp2 M 297 125 297 0 k) 297 k ((cp2 M 297 125 297 0 k) 297 (k + 125))) = (cp2 M 297 125 297 0 (k + 1)) := by exact cp2_s (by omega) (by omega) (by omega)
      rw [e2]
      exact ih (k + 1) (by omega) (by omega)

set_option maxHeartbeats 4000000 in
set_option maxRecDepth 100000 in
theorem ok_X10_remember {w u : Nat} {M : inm} {Q : Nat → rfm → inm → Prop} (hu : M 279 33 = (u : Int)) (hu30 : u ≤ 30) (hQ : Q 303 (PP w) (rRem M u)) : OkV yX10_remember cX10_remember 2 0 0 0 [vR 279] 303 (PP w) M Q := by
  refine OkV.of (by decide +kernel) (by decide +kernel) (Nat.le_of_ble_eq_true rfl) ?_
  refine go_eq (lv' := [(0, vR 279)]) rfl rfl rfl rfl rfl ?_
  refine go_aload_n 0 dX10_remember_0 rfl rfl ?_
  refine gx_getI (v := ((u : Nat) : Int)) dX10_remember_1 lk10_179.get kd_279 (by omega) rfl hu ?_
  refine go_bipush dX10_remember_4 (by decide) (by decide) ?_
  refine go_icmp_ne (tgt := 50) dX10_remember_6 rfl (fun c1 => ?_) (fun c1 => ?_)
  · refine go_iconst dX10_remember_50 (by decide) ?_
    refine go_istore_n (lv' := [(1, vI 0), (0, vR 279)]) dX10_remember_51 rfl (by decide) rfl ?_
    have hu2 : ¬ u = 30 := by omega
    rw [rRem, if_neg hu2] at hQ
    refine go_m (M' := cp2 M 284 0 297 (125 * u) 0) cp2_0.symm ?_
    exact lp_X10_remember2 hu (by omega) hQ 126 0 (by omega) (by omega)
  · refine go_bipush dX10_remember_9 (by decide) (by decide) ?_
    refine go_istore_n (lv' := [(1, vI 125), (0, vR 279)]) dX10_remember_11 rfl (by decide) rfl ?_
    have hu2 : u = 30 := by omega
    rw [rRem, if_pos hu2] at hQ
    refine go_m (M' := cp2 M 297 125 297 0 0) cp2_0.symm ?_
    exact lp_X10_remember1 (by rw [hu, hu2]; rfl) hQ 3626 0 (by omega) (by omega)

def rEnter (M : inm) (n : Nat) (e x z : Int) : inm := if n = 20 then up2 (up2 (up2 (up2 (up2 (up2 (cp2 M 284 49 284 45 76) 284 44 19) 284 121 (M 284 25)) 284 122 e) 284 123 x) 284 124 z) 284 44 20 else up2 (up2 (up2 (up2 (up2 M 284 (4 * n + 45) (M 284 25)) 284 (4 * n + 46) e) 284 (4 * n + 47) x) 284 (4 * n + 48) z) 284 44 ((n + 1 : Nat) : Int)
theorem rEnter_out {M : inm} {n y j : Nat} {e x z : Int} (h : y ≠ 284 ∨ j < 44) : rEnter M n e x z y j = M y j := by
  unfold rEnter
  split
  · rw [up2_ne (by omega), up2_ne (by omega), up2_ne (by omega), up2_ne (by omega), up2_ne (by omega), up2_ne (by omega), cp2_out (by omega)]
  · rw [up2_ne (by omega), up2_ne (by omega), up2_ne (by omega), up2_ne (by omega), up2_ne (by omega)]
set_option maxHeartbeats 4000000 in
set_option maxRecDepth 100000 in
theorem lp_X10_enters {w : Nat} {e x z : Int} {M : inm} {Q : Nat → rfm → inm → Prop} (hn : M 284 44 = 20) (hQ : Q 303 (PP w) (up2 (up2 (up2 (up2 (up2 (up2 (cp2 M 284 49 284 45 76) 284 44 19) 284 121 (M 284 25)) 284 122 e) 284 123 x) 284 124 z) 284 44 20)) : ∀ (d k : Nat), 76 < k + d → k ≤ 76 → Go S0 yX10_enters cX10_enters 5 0 0 0 none 15 [(4, vI ((k : Nat) : Int)), (0, vR 279), (1, vI e), (2, vI x), (3, vI z)] [] 303 (PP w) (cp2 M 284 49 284 45 k) (fun v n P M => v = none ∧ Q n P M) := by
  intro d
  induction d with
  | zero => intro k h1 h2; exfalso; omega
  | succ d ih =>
    intro k h1 h2
    refine go_iload 0 dX10_enters_15 rfl ?_
    refine go_bipush dX10_enters_17 (by decide) (by decide) ?_
    refine go_icmp_ge (tgt := 50) dX10_enters_19 rfl (fun c1 => ?_) (fun c1 => ?_)
    · have hk : k = 76 := by omega
      subst hk
      refine go_lv [1, 2, 3, 4] rfl ?_
      refine go_aload_n 0 dX10_enters_50 rfl rfl ?_
      refine go_getR (r := 284) dX10_enters_51 lk10_22.get kd_279 (by omega) rfl (pp_279_8 w) ?_
      refine go_bipush dX10_enters_54 (by decide) (by decide) ?_
      refine go_dup2 dX10_enters_56 rfl rfl ?_
      refine gx_iaload (v := 20) 44 dX10_enters_57 kd_284 (by omega) ln_284 (by omega) (by omega) ((cp2_out (by omega)).trans hn) ?_
      refine go_iconst dX10_enters_58 (by decide) ?_
      refine gx_isub (v := 19) dX10_enters_59 rfl ⟨by omega, by omega⟩ ?_
      refine gx_iastore 44 dX10_enters_60 kd_284 (by omega) ln_284 (by omega) (by omega) ?_
      refine go_bipush dX10_enters_61 (by decide) (by decide) ?_
      refine go_iconst dX10_enters_63 (by decide) ?_
      refine go_aload_n 0 dX10_enters_64 rfl rfl ?_
      refine go_getR (r := 284) dX10_enters_65 lk10_22.get kd_279 (by omega) rfl (pp_279_8 w) ?_
      refine go_bipush dX10_enters_68 (by decide) (by decide) ?_
      refine gx_iaload (v := 19) 44 dX10_enters_70 kd_284 (by omega) ln_284 (by omega) (by omega) up2_same ?_
      refine gx_imul (v := 76) dX10_enters_71 (by omega) ⟨by omega, by omega⟩ ?_
      refine gx_iadd (v := 121) dX10_enters_72 (by omega) ⟨by omega, by omega⟩ ?_
      refine go_istore (lv' := [(4, vI 121), (0, vR 279), (1, vI e), (2, vI x), (3, vI z)]) dX10_enters_73 (by decide) rfl ?_
      refine go_aload_n 1 dX10_enters_75 rfl rfl ?_
      refine go_getR (r := 284) dX10_enters_76 lk10_22.get kd_279 (by omega) rfl (pp_279_8 w) ?_
      refine go_iload 0 dX10_enters_79 rfl ?_
      refine go_aload_n 1 dX10_enters_81 rfl rfl ?_
      refine go_getR (r := 284) dX10_enters_82 lk10_22.get kd_279 (by omega) rfl (pp_279_8 w) ?_
      refine go_bipush dX10_enters_85 (by decide) (by decide) ?_
      refine gx_iaload (v := (M 284 25)) 25 dX10_enters_87 kd_284 (by omega) ln_284 (by omega) (by omega) ((up2_ne (by omega)).trans (cp2_out (by omega))) ?_
      refine gx_iastore 121 dX10_enters_88 kd_284 (by omega) ln_284 (by omega) (by omega) ?_
      refine go_aload_n 1 dX10_enters_89 rfl rfl ?_
      refine go_getR (r := 284) dX10_enters_90 lk10_22.get kd_279 (by omega) rfl (pp_279_8 w) ?_
      refine go_iload 0 dX10_enters_93 rfl ?_
      refine go_iconst dX10_enters_95 (by decide) ?_
      refine gx_iadd (v := 122) dX10_enters_96 (by omega) ⟨by omega, by omega⟩ ?_
      refine go_iload_n 2 dX10_enters_97 rfl rfl ?_
      refine gx_iastore 122 dX10_enters_98 kd_284 (by omega) ln_284 (by omega) (by omega) ?_
      refine go_aload_n 1 dX10_enters_99 rfl rfl ?_
      refine go_getR (r := 284) dX10_enters_100 lk10_22.get kd_279 (by omega) rfl (pp_279_8 w) ?_
      refine go_iload 0 dX10_enters_103 rfl ?_
      refine go_iconst dX10_enters_105 (by decide) ?_
      refine gx_iadd (v := 123) dX10_enters_106 (by omega) ⟨by omega, by omega⟩ ?_
      refine go_iload_n 3 dX10_enters_107 rfl rfl ?_
      refine gx_iastore 123 dX10_enters_108 kd_284 (by omega) ln_284 (by omega) (by omega) ?_
      refine go_aload_n 1 dX10_enters_109 rfl rfl ?_
      refine go_getR (r := 284) dX10_enters_110 lk10_22.get kd_279 (by omega) rfl (pp_279_8 w) ?_
      refine go_iload 0 dX10_enters_113 rfl ?_
      refine go_iconst dX10_enters_115 (by decide) ?_
      refine gx_iadd (v := 124) dX10_enters_116 (by omega) ⟨by omega, by omega⟩ ?_
      refine go_iload_n 4 dX10_enters_117 rfl rfl ?_
      refine gx_iastore 124 dX10_enters_118 kd_284 (by omega) ln_284 (by omega) (by omega) ?_
      refine go_aload_n 1 dX10_enters_119 rfl rfl ?_
      refine go_getR (r := 284) dX10_enters_120 lk10_22.get kd_279 (by omega) rfl (pp_279_8 w) ?_
      refine go_bipush dX10_enters_123 (by decide) (by decide) ?_
      refine go_dup2 dX10_enters_125 rfl rfl ?_
      refine gx_iaload (v := 19) 44 dX10_enters_126 kd_284 (by omega) ln_284 (by omega) (by omega) ((up2_ne (by omega)).trans ((up2_ne (by omega)).trans ((up2_ne (by omega)).trans ((up2_ne (by omega)).trans up2_same)))) ?_
      refine go_iconst dX10_enters_127 (by decide) ?_
      refine gx_iadd (v := 20) dX10_enters_128 (by omega) ⟨by omega, by omega⟩ ?_
      refine gx_iastore 44 dX10_enters_129 kd_284 (by omega) ln_284 (by omega) (by omega) ?_
      refine go_ret dX10_enters_130 rfl ⟨rfl, ?_⟩
      exact hQ
    · refine go_aload_n 1 dX10_enters_22 rfl rfl ?_
      refine go_getR (r := 284) dX10_enters_23 lk10_22.get kd_279 (by omega) rfl (pp_279_8 w) ?_
      refine go_bipush dX10_enters_26 (by decide) (by decide) ?_
      refine go_iload 0 dX10_enters_28 rfl ?_
      refine gx_iadd (v := ((k + 45 : Nat) : Int)) dX10_enters_30 (by omega) ⟨by omega, by omega⟩ ?_
      refine go_aload_n 1 dX10_enters_31 rfl rfl ?_
      refine go_getR (r := 284) dX10_enters_32 lk10_22.get kd_279 (by omega) rfl (pp_279_8 w) ?_
      refine go_bipush dX10_enters_35 (by decide) (by decide) ?_
      refine go_iload 0 dX10_enters_37 rfl ?_
      refine gx_iadd (v := ((k + 45 : Nat) : Int)) dX10_enters_39 (by omega) ⟨by omega, by omega⟩ ?_
      refine go_iconst dX10_enters_40 (by decide) ?_
      refine gx_iadd (v := ((k + 49 : Nat) : Int)) dX10_enters_41 (by omega) ⟨by omega, by omega⟩ ?_
      refine gx_iaload (v := ((cp2 M 284 49 284 45 k) 284 (k + 49))) (k + 49) dX10_enters_42 kd_284 (by omega) ln_284 rfl (by omega) rfl ?_
      refine gx_iastore (k + 45) dX10_enters_43 kd_284 (by omega) ln_284 rfl (by omega) ?_
      refine gx_iinc (v := ((k + 1 : Nat) : Int)) (lv' := [(4, vI ((k + 1 : Nat) : Int)), (0, vR 279), (1, vI e), (2, vI x), (3, vI z)]) 0 dX10_enters_44 rfl (by omega) ⟨by omega, by omega⟩ (by decide) rfl ?_
      refine go_goto (tgt := 15) dX10_enters_47 rfl ?_
      have e2 : (up2 (cp2 M 284 49 284 45 k) 284 (k + 45) ((cp2 M 284 49 284 45 k) 284 (k + 49))) = (cp2 M 284 49 284 45 (k + 1)) := by exact cp2_s (by omega) (by omega) (by omega)
      rw [e2]
      exact ih (k + 1) (by omega) (by omega)

set_option maxHeartbeats 4000000 in
set_option maxRecDepth 100000 in
theorem ok_X10_enters {w n : Nat} {e x z : Int} {M : inm} {Q : Nat → rfm → inm → Prop} (hn : M 284 44 = (n : Int) ∧ n ≤ 20) (hQ : Q 303 (PP w) (rEnter M n e x z)) : OkV yX10_enters cX10_enters 5 0 0 0 [vR 279, vI e, vI x, vI z] 303 (PP w) M Q := by
  refine OkV.of (by decide +kernel) (by decide +kernel) (Nat.le_of_ble_eq_true rfl) ?_
  refine go_eq (lv' := [(0, vR 279), (1, vI e), (2, vI x), (3, vI z)]) rfl rfl rfl rfl rfl ?_
  have hn20 := hn.2
  refine go_aload_n 0 dX10_enters_0 rfl rfl ?_
  refine go_getR (r := 284) dX10_enters_1 lk10_22.get kd_279 (by omega) rfl (pp_279_8 w) ?_
  refine go_bipush dX10_enters_4 (by decide) (by decide) ?_
  refine gx_iaload (v := ((n : Nat) : Int)) 44 dX10_enters_6 kd_284 (by omega) ln_284 (by omega) (by omega) hn.1 ?_
  refine go_bipush dX10_enters_7 (by decide) (by decide) ?_
  refine go_icmp_ne (tgt := 61) dX10_enters_9 rfl (fun c1 => ?_) (fun c1 => ?_)
  · refine go_bipush dX10_enters_61 (by decide) (by decide) ?_
    refine go_iconst dX10_enters_63 (by decide) ?_
    refine go_aload_n 0 dX10_enters_64 rfl rfl ?_
    refine go_getR (r := 284) dX10_enters_65 lk10_22.get kd_279 (by omega) rfl (pp_279_8 w) ?_
    refine go_bipush dX10_enters_68 (by decide) (by decide) ?_
    refine gx_iaload (v := ((n : Nat) : Int)) 44 dX10_enters_70 kd_284 (by omega) ln_284 (by omega) (by omega) hn.1 ?_
    refine gx_imul (v := ((4 * n : Nat) : Int)) dX10_enters_71 (by omega) ⟨by omega, by omega⟩ ?_
    refine gx_iadd (v := ((4 * n + 45 : Nat) : Int)) dX10_enters_72 (by omega) ⟨by omega, by omega⟩ ?_
    refine go_istore (lv' := [(4, vI ((4 * n + 45 : Nat) : Int)), (0, vR 279), (1, vI e), (2, vI x), (3, vI z)]) dX10_enters_73 (by decide) rfl ?_
    refine go_aload_n 1 dX10_enters_75 rfl rfl ?_
    refine go_getR (r := 284) dX10_enters_76 lk10_22.get kd_279 (by omega) rfl (pp_279_8 w) ?_
    refine go_iload 0 dX10_enters_79 rfl ?_
    refine go_aload_n 1 dX10_enters_81 rfl rfl ?_
    refine go_getR (r := 284) dX10_enters_82 lk10_22.get kd_279 (by omega) rfl (pp_279_8 w) ?_
    refine go_bipush dX10_enters_85 (by decide) (by decide) ?_
    refine gx_iaload (v := (M 284 25)) 25 dX10_enters_87 kd_284 (by omega) ln_284 (by omega) (by omega) rfl ?_
    refine gx_iastore (4 * n + 45) dX10_enters_88 kd_284 (by omega) ln_284 rfl (by omega) ?_
    refine go_aload_n 1 dX10_enters_89 rfl rfl ?_
    refine go_getR (r := 284) dX10_enters_90 lk10_22.get kd_279 (by omega) rfl (pp_279_8 w) ?_
    refine go_iload 0 dX10_enters_93 rfl ?_
    refine go_iconst dX10_enters_95 (by decide) ?_
    refine gx_iadd (v := ((4 * n + 46 : Nat) : Int)) dX10_enters_96 (by omega) ⟨by omega, by omega⟩ ?_
    refine go_iload_n 2 dX10_enters_97 rfl rfl ?_
    refine gx_iastore (4 * n + 46) dX10_enters_98 kd_284 (by omega) ln_284 rfl (by omega) ?_
    refine go_aload_n 1 dX10_enters_99 rfl rfl ?_
    refine go_getR (r := 284) dX10_enters_100 lk10_22.get kd_279 (by omega) rfl (pp_279_8 w) ?_
    refine go_iload 0 dX10_enters_103 rfl ?_
    refine go_iconst dX10_enters_105 (by decide) ?_
    refine gx_iadd (v := ((4 * n + 47 : Nat) : Int)) dX10_enters_106 (by omega) ⟨by omega, by omega⟩ ?_
    refine go_iload_n 3 dX10_enters_107 rfl rfl ?_
    refine gx_iastore (4 * n + 47) dX10_enters_108 kd_284 (by omega) ln_284 rfl (by omega) ?_
    refine go_aload_n 1 dX10_enters_109 rfl rfl ?_
    refine go_getR (r := 284) dX10_enters_110 lk10_22.get kd_279 (by omega) rfl (pp_279_8 w) ?_
    refine go_iload 0 dX10_enters_113 rfl ?_
    refine go_iconst dX10_enters_115 (by decide) ?_
    refine gx_iadd (v := ((4 * n + 48 : Nat) : Int)) dX10_enters_116 (by omega) ⟨by omega, by omega⟩ ?_
    refine go_iload_n 4 dX10_enters_117 rfl rfl ?_
    refine gx_iastore (4 * n + 48) dX10_enters_118 kd_284 (by omega) ln_284 rfl (by omega) ?_
    refine go_aload_n 1 dX10_enters_119 rfl rfl ?_
    refine go_getR (r := 284) dX10_enters_120 lk10_22.get kd_279 (by omega) rfl (pp_279_8 w) ?_
    refine go_bipush dX10_enters_123 (by decide) (by decide) ?_
    refine go_dup2 dX10_enters_125 rfl rfl ?_
    refine gx_iaload (v := ((n : Nat) : Int)) 44 dX10_enters_126 kd_284 (by omega) ln_284 (by omega) (by omega) ((up2_ne (by omega)).trans ((up2_ne (by omega)).trans ((up2_ne (by omega)).trans ((up2_ne (by omega)).trans hn.1)))) ?_
    refine go_iconst dX10_enters_127 (by decide) ?_
    refine gx_iadd (v := ((n + 1 : Nat) : Int)) dX10_enters_128 (by omega) ⟨by omega, by omega⟩ ?_
    refine gx_iastore 44 dX10_enters_129 kd_284 (by omega) ln_284 (by omega) (by omega) ?_
    refine go_ret dX10_enters_130 rfl ⟨rfl, ?_⟩
    have hn2 : ¬ n = 20 := by omega
    rw [rEnter, if_neg hn2] at hQ
    exact hQ
  · refine go_iconst dX10_enters_12 (by decide) ?_
    refine go_istore (lv' := [(4, vI 0), (0, vR 279), (1, vI e), (2, vI x), (3, vI z)]) dX10_enters_13 (by decide) rfl ?_
    have hn2 : n = 20 := by omega
    rw [rEnter, if_pos hn2] at hQ
    refine go_m (M' := cp2 M 284 49 284 45 0) cp2_0.symm ?_
    exact lp_X10_enters (by rw [hn.1, hn2]; rfl) hQ 77 0 (by omega) (by omega)

def rGrow (M : inm) (L : Nat) : inm := if M 284 13 < 20 then up2 M 284 13 (M 284 13 + 1) else if L < 12 then up2 (up2 (up2 (gr M 0 L) 284 1 2) 284 13 1) 284 0 ((L + 1 : Nat) : Int) else M
set_option maxHeartbeats 4000000 in
set_option maxRecDepth 100000 in
theorem lp_X10_grows {w L : Nat} {M : inm} {Q : Nat → rfm → inm → Prop} (hL : M 284 0 = (L : Int)) (hL11 : L ≤ 11) (hQ : Q 303 (PP w) (up2 (up2 (up2 (gr M 0 L) 284 1 2) 284 13 1) 284 0 ((L + 1 : Nat) : Int))) : ∀ k, k ≤ L → Go S0 yX10_grows cX10_grows 2 0 0 0 none 44 [(1, vI ((k : Nat) : Int)), (0, vR 279)] [] 303 (PP w) (gr M k L) (fun v n P M => v = none ∧ Q n P M) := by
  intro k
  induction k with
  | zero =>
    intro hk
    refine go_iload_n 0 dX10_grows_44 rfl rfl ?_
    refine go_if_le (tgt := 92) dX10_grows_45 rfl (fun c1 => ?_) (fun c1 => ?_)
    · refine go_aload_n 1 dX10_grows_92 rfl rfl ?_
      refine go_getR (r := 284) dX10_grows_93 lk10_22.get kd_279 (by omega) rfl (pp_279_8 w) ?_
      refine go_iconst dX10_grows_96 (by decide) ?_
      refine go_iconst dX10_grows_97 (by decide) ?_
      refine gx_iastore 1 dX10_grows_98 kd_284 (by omega) ln_284 (by omega) (by omega) ?_
      refine go_aload_n 1 dX10_grows_99 rfl rfl ?_
      refine go_getR (r := 284) dX10_grows_100 lk10_22.get kd_279 (by omega) rfl (pp_279_8 w) ?_
      refine go_bipush dX10_grows_103 (by decide) (by decide) ?_
      refine go_iconst dX10_grows_105 (by decide) ?_
      refine gx_iastore 13 dX10_grows_106 kd_284 (by omega) ln_284 (by omega) (by omega) ?_
      refine go_aload_n 1 dX10_grows_107 rfl rfl ?_
      refine go_getR (r := 284) dX10_grows_108 lk10_22.get kd_279 (by omega) rfl (pp_279_8 w) ?_
      refine go_iconst dX10_grows_111 (by decide) ?_
      refine go_dup2 dX10_grows_112 rfl rfl ?_
      refine gx_iaload (v := ((L : Nat) : Int)) 0 dX10_grows_113 kd_284 (by omega) ln_284 (by omega) (by omega) ((up2_ne (by omega)).trans ((up2_ne (by omega)).trans (((gr_out (by omega)).trans hL)))) ?_
      refine go_iconst dX10_grows_114 (by decide) ?_
      refine gx_iadd (v := ((L + 1 : Nat) : Int)) dX10_grows_115 (by omega) ⟨by omega, by omega⟩ ?_
      refine gx_iastore 0 dX10_grows_116 kd_284 (by omega) ln_284 (by omega) (by omega) ?_
      refine go_ret dX10_grows_117 rfl ⟨rfl, ?_⟩
      exact hQ
    · exact absurd c1 (by decide)
  | succ k ih =>
    intro hk
    refine go_iload_n 0 dX10_grows_44 rfl rfl ?_
    refine go_if_le (tgt := 92) dX10_grows_45 rfl (fun c1 => ?_) (fun c1 => ?_)
    · exact absurd c1 (by omega)
    · refine go_aload_n 1 dX10_grows_48 rfl rfl ?_
      refine go_getR (r := 284) dX10_grows_49 lk10_22.get kd_279 (by omega) rfl (pp_279_8 w) ?_
      refine go_iconst dX10_grows_52 (by decide) ?_
      refine go_iload_n 0 dX10_grows_53 rfl rfl ?_
      refine gx_iadd (v := ((k + 2 : Nat) : Int)) dX10_grows_54 (by omega) ⟨by omega, by omega⟩ ?_
      refine go_aload_n 1 dX10_grows_55 rfl rfl ?_
      refine go_getR (r := 284) dX10_grows_56 lk10_22.get kd_279 (by omega) rfl (pp_279_8 w) ?_
      refine go_iconst dX10_grows_59 (by decide) ?_
      refine go_iload_n 0 dX10_grows_60 rfl rfl ?_
      refine gx_iadd (v := ((k + 2 : Nat) : Int)) dX10_grows_61 (by omega) ⟨by omega, by omega⟩ ?_
      refine go_iconst dX10_grows_62 (by decide) ?_
      refine gx_isub (v := ((k + 1 : Nat) : Int)) dX10_grows_63 (by omega) ⟨by omega, by omega⟩ ?_
      refine gx_iaload (v := (M 284 (k + 1))) (k + 1) dX10_grows_64 kd_284 (by omega) ln_284 rfl (by omega) ((gr_out (by omega))) ?_
      refine gx_iastore (k + 2) dX10_grows_65 kd_284 (by omega) ln_284 rfl (by omega) ?_
      refine go_aload_n 1 dX10_grows_66 rfl rfl ?_
      refine go_getR (r := 284) dX10_grows_67 lk10_22.get kd_279 (by omega) rfl (pp_279_8 w) ?_
      refine go_bipush dX10_grows_70 (by decide) (by decide) ?_
      refine go_iload_n 0 dX10_grows_72 rfl rfl ?_
      refine gx_iadd (v := ((k + 14 : Nat) : Int)) dX10_grows_73 (by omega) ⟨by omega, by omega⟩ ?_
      refine go_aload_n 1 dX10_grows_74 rfl rfl ?_
      refine go_getR (r := 284) dX10_grows_75 lk10_22.get kd_279 (by omega) rfl (pp_279_8 w) ?_
      refine go_bipush dX10_grows_78 (by decide) (by decide) ?_
      refine go_iload_n 0 dX10_grows_80 rfl rfl ?_
      refine gx_iadd (v := ((k + 14 : Nat) : Int)) dX10_grows_81 (by omega) ⟨by omega, by omega⟩ ?_
      refine go_iconst dX10_grows_82 (by decide) ?_
      refine gx_isub (v := ((k + 13 : Nat) : Int)) dX10_grows_83 (by omega) ⟨by omega, by omega⟩ ?_
      refine gx_iaload (v := (M 284 (k + 13))) (k + 13) dX10_grows_84 kd_284 (by omega) ln_284 rfl (by omega) ((up2_ne (by omega)).trans ((gr_out (by omega)))) ?_
      refine gx_iastore (k + 14) dX10_grows_85 kd_284 (by omega) ln_284 rfl (by omega) ?_
      refine gx_iinc (v := (((k + 1 : Nat) : Int) + (-1))) (lv' := [(1, vI (((k + 1 : Nat) : Int) + (-1))), (0, vR 279)]) 0 dX10_grows_86 rfl rfl ⟨by omega, by omega⟩ (by decide) rfl ?_
      refine go_goto (tgt := 44) dX10_grows_89 rfl ?_
      refine go_lv [0, 1] rfl ?_
      refine go_eq (lv' := [(1, vI ((k : Nat) : Int)), (0, vR 279)]) (by rw [show (((k + 1 : Nat) : Int) + (-1)) = ((k : Nat) : Int) by omega]; rfl) rfl rfl rfl rfl ?_
      refine go_m (M' := gr M k L) (gr_s (by omega) hL11) ?_
      exact ih (by omega)

set_option maxHeartbeats 4000000 in
set_option maxRecDepth 100000 in
theorem ok_X10_grows {w L : Nat} {M : inm} {Q : Nat → rfm → inm → Prop} (hL : M 284 0 = (L : Int)) (ht : 0 ≤ M 284 13 ∧ M 284 13 ≤ 20) (hQ : Q 303 (PP w) (rGrow M L)) : OkV yX10_grows cX10_grows 2 0 0 0 [vR 279] 303 (PP w) M Q := by
  refine OkV.of (by decide +kernel) (by decide +kernel) (Nat.le_of_ble_eq_true rfl) ?_
  refine go_eq (lv' := [(0, vR 279)]) rfl rfl rfl rfl rfl ?_
  refine go_aload_n 0 dX10_grows_0 rfl rfl ?_
  refine go_getR (r := 284) dX10_grows_1 lk10_22.get kd_279 (by omega) rfl (pp_279_8 w) ?_
  refine go_bipush dX10_grows_4 (by decide) (by decide) ?_
  have f1 := ht
  refine gx_iaload (v := (M 284 13)) 13 dX10_grows_6 kd_284 (by omega) ln_284 (by omega) (by omega) rfl ?_
  refine go_bipush dX10_grows_7 (by decide) (by decide) ?_
  refine go_icmp_ge (tgt := 26) dX10_grows_9 rfl (fun c2 => ?_) (fun c2 => ?_)
  · refine go_aload_n 0 dX10_grows_26 rfl rfl ?_
    refine go_getR (r := 284) dX10_grows_27 lk10_22.get kd_279 (by omega) rfl (pp_279_8 w) ?_
    refine go_iconst dX10_grows_30 (by decide) ?_
    refine gx_iaload (v := ((L : Nat) : Int)) 0 dX10_grows_31 kd_284 (by omega) ln_284 (by omega) (by omega) hL ?_
    refine go_bipush dX10_grows_32 (by decide) (by decide) ?_
    refine go_icmp_ge (tgt := 117) dX10_grows_34 rfl (fun c3 => ?_) (fun c3 => ?_)
    · refine go_ret dX10_grows_117 rfl ⟨rfl, ?_⟩
      rw [rGrow] at hQ
      first | (rw [if_pos (by omega)] at hQ; exact hQ) | (rw [if_neg (by omega), if_neg (by omega)] at hQ; exact hQ)
    · refine go_aload_n 0 dX10_grows_37 rfl rfl ?_
      refine go_getR (r := 284) dX10_grows_38 lk10_22.get kd_279 (by omega) rfl (pp_279_8 w) ?_
      refine go_iconst dX10_grows_41 (by decide) ?_
      refine gx_iaload (v := ((L : Nat) : Int)) 0 dX10_grows_42 kd_284 (by omega) ln_284 (by omega) (by omega) hL ?_
      refine go_istore_n (lv' := [(1, vI ((L : Nat) : Int)), (0, vR 279)]) dX10_grows_43 rfl (by decide) rfl ?_
      rw [rGrow, if_neg (by omega), if_pos (by omega)] at hQ
      refine go_m (M' := gr M L L) gr_L.symm ?_
      exact lp_X10_grows hL (by omega) hQ L (Nat.le_refl L)
  · refine go_aload_n 0 dX10_grows_12 rfl rfl ?_
    refine go_getR (r := 284) dX10_grows_13 lk10_22.get kd_279 (by omega) rfl (pp_279_8 w) ?_
    refine go_bipush dX10_grows_16 (by decide) (by decide) ?_
    refine go_dup2 dX10_grows_18 rfl rfl ?_
    have f4 := ht
    refine gx_iaload (v := (M 284 13)) 13 dX10_grows_19 kd_284 (by omega) ln_284 (by omega) (by omega) rfl ?_
    refine go_iconst dX10_grows_20 (by decide) ?_
    refine gx_iadd (v := ((M 284 13) + 1)) dX10_grows_21 rfl ⟨by omega, by omega⟩ ?_
    refine gx_iastore 13 dX10_grows_22 kd_284 (by omega) ln_284 (by omega) (by omega) ?_
    refine go_goto (tgt := 117) dX10_grows_23 rfl ?_
    refine go_ret dX10_grows_117 rfl ⟨rfl, ?_⟩
    rw [rGrow] at hQ
    first | (rw [if_pos (by omega)] at hQ; exact hQ) | (rw [if_neg (by omega), if_neg (by omega)] at hQ; exact hQ)

def rY1 (M : inm) (L : Nat) : inm := ovo M 284 13 L (fun j => M 284 (j + 13) + (if M 284 (j + 1) = 3 ∧ M 284 (j + 13) < 20 then 1 else 0))
def rY2 (B : inm) (E : Nat) : inm := up2 (ovo B 284 34 E (fun e => if B 281 e < B 284 (e + 34) then B 284 (e + 34) - B 281 e else 0)) 284 25 (B 284 25 + 1)
def rYear (M : inm) (L E : Nat) : inm := rY2 (rY1 M L) E
set_option maxHeartbeats 4000000 in
set_option maxRecDepth 100000 in
theorem lp_X10_passes2 {w E : Nat} {B : inm} {Q : Nat → rfm → inm → Prop} (hE : B 279 2 = (E : Int) ∧ E ≤ 5) (hT : ∀ e, e < E → 0 ≤ B 284 (e + 34) ∧ B 284 (e + 34) ≤ 9999) (hq : ∀ e, e < E → 1 ≤ B 281 e ∧ B 281 e ≤ 9) (hy : 0 ≤ B 284 25 ∧ B 284 25 ≤ 1000000) (hQ : Q 303 (PP w) (rY2 B E)) : ∀ (d k : Nat), E < k + d → k ≤ E → Go S0 yX10_passes cX10_passes 2 0 0 0 none 63 [(1, vI ((k : Nat) : Int)), (0, vR 279)] [] 303 (PP w) (ovo B 284 34 k (fun e => if B 281 e < B 284 (e + 34) then B 284 (e + 34) - B 281 e else 0)) (fun v n P M => v = none ∧ Q n P M) := by
  have hE5 := hE.2
  intro d
  induction d with
  | zero => intro k h1 h2; exfalso; omega
  | succ d ih =>
    intro k h1 h2
    refine go_iload_n 0 dX10_passes_63 rfl rfl ?_
    refine go_aload_n 1 dX10_passes_64 rfl rfl ?_
    refine gx_getI (v := ((E : Nat) : Int)) dX10_passes_65 lk10_91.get kd_279 (by omega) rfl (((ovo_out (by omega)).trans hE.1)) ?_
    refine go_icmp_ge (tgt := 124) dX10_passes_68 rfl (fun c1 => ?_) (fun c1 => ?_)
    · have hk : k = E := by omega
      subst hk
      refine go_lv [1] rfl ?_
      refine go_aload_n 0 dX10_passes_124 rfl rfl ?_
      refine go_getR (r := 284) dX10_passes_125 lk10_22.get kd_279 (by omega) rfl (pp_279_8 w) ?_
      refine go_bipush dX10_passes_128 (by decide) (by decide) ?_
      refine go_dup2 dX10_passes_130 rfl rfl ?_
      have f102 := hy
      refine gx_iaload (v := (B 284 25)) 25 dX10_passes_131 kd_284 (by omega) ln_284 (by omega) (by omega) ((ovo_out (by omega))) ?_
      refine go_iconst dX10_passes_132 (by decide) ?_
      refine gx_iadd (v := ((B 284 25) + 1)) dX10_passes_133 rfl ⟨by omega, by omega⟩ ?_
      refine gx_iastore 25 dX10_passes_134 kd_284 (by omega) ln_284 (by omega) (by omega) ?_
      refine go_ret dX10_passes_135 rfl ⟨rfl, ?_⟩
      exact hQ
    · refine go_aload_n 1 dX10_passes_71 rfl rfl ?_
      refine go_getR (r := 284) dX10_passes_72 lk10_22.get kd_279 (by omega) rfl (pp_279_8 w) ?_
      refine go_bipush dX10_passes_75 (by decide) (by decide) ?_
      refine go_iload_n 0 dX10_passes_77 rfl rfl ?_
      refine gx_iadd (v := ((k + 34 : Nat) : Int)) dX10_passes_78 (by omega) ⟨by omega, by omega⟩ ?_
      refine go_aload_n 1 dX10_passes_79 rfl rfl ?_
      refine go_getR (r := 284) dX10_passes_80 lk10_22.get kd_279 (by omega) rfl (pp_279_8 w) ?_
      refine go_bipush dX10_passes_83 (by decide) (by decide) ?_
      refine go_iload_n 0 dX10_passes_85 rfl rfl ?_
      refine gx_iadd (v := ((k + 34 : Nat) : Int)) dX10_passes_86 (by omega) ⟨by omega, by omega⟩ ?_
      have f2 := hT k (by omega)
      refine gx_iaload (v := (B 284 (k + 34))) (k + 34) dX10_passes_87 kd_284 (by omega) ln_284 rfl (by omega) ((ovo_out (by omega))) ?_
      refine go_aload_n 1 dX10_passes_88 rfl rfl ?_
      refine go_getR (r := 281) dX10_passes_89 lk10_13.get kd_279 (by omega) rfl (pp_279_4 w) ?_
      refine go_iload_n 0 dX10_passes_92 rfl rfl ?_
      have f3 := hq k (by omega)
      refine gx_iaload (v := (B 281 k)) k dX10_passes_93 kd_281 (by omega) ln_281 rfl (by omega) ((ovo_out (by omega))) ?_
      refine go_icmp_le (tgt := 116) dX10_passes_94 rfl (fun c4 => ?_) (fun c4 => ?_)
      · refine go_iconst dX10_passes_116 (by decide) ?_
        refine gx_iastore (k + 34) dX10_passes_117 kd_284 (by omega) ln_284 rfl (by omega) ?_
        refine gx_iinc (v := ((k + 1 : Nat) : Int)) (lv' := [(1, vI ((k + 1 : Nat) : Int)), (0, vR 279)]) 0 dX10_passes_118 rfl (by omega) ⟨by omega, by omega⟩ (by decide) rfl ?_
        refine go_goto (tgt := 63) dX10_passes_121 rfl ?_
        have e5 : (up2 (ovo B 284 34 k (fun e => if B 281 e < B 284 (e + 34) then B 284 (e + 34) - B 281 e else 0)) 284 (k + 34) 0) = (ovo B 284 34 (k + 1) (fun e => if B 281 e < B 284 (e + 34) then B 284 (e + 34) - B 281 e else 0)) := by exact ovo_s (by omega) (by first | exact (if_pos (by omega)).symm | exact (if_neg (by omega)).symm)
        rw [e5]
        exact ih (k + 1) (by omega) (by omega)
      · refine go_aload_n 1 dX10_passes_97 rfl rfl ?_
        refine go_getR (r := 284) dX10_passes_98 lk10_22.get kd_279 (by omega) rfl (pp_279_8 w) ?_
        refine go_bipush dX10_passes_101 (by decide) (by decide) ?_
        refine go_iload_n 0 dX10_passes_103 rfl rfl ?_
        refine gx_iadd (v := ((k + 34 : Nat) : Int)) dX10_passes_104 (by omega) ⟨by omega, by omega⟩ ?_
        have f6 := hT k (by omega)
        refine gx_iaload (v := (B 284 (k + 34))) (k + 34) dX10_passes_105 kd_284 (by omega) ln_284 rfl (by omega) ((ovo_out (by omega))) ?_
        refine go_aload_n 1 dX10_passes_106 rfl rfl ?_
        refine go_getR (r := 281) dX10_passes_107 lk10_13.get kd_279 (by omega) rfl (pp_279_4 w) ?_
        refine go_iload_n 0 dX10_passes_110 rfl rfl ?_
        have f7 := hq k (by omega)
        refine gx_iaload (v := (B 281 k)) k dX10_passes_111 kd_281 (by omega) ln_281 rfl (by omega) ((ovo_out (by omega))) ?_
        refine gx_isub (v := ((B 284 (k + 34)) - (B 281 k))) dX10_passes_112 rfl ⟨by omega, by omega⟩ ?_
        refine go_goto (tgt := 117) dX10_passes_113 rfl ?_
        refine gx_iastore (k + 34) dX10_passes_117 kd_284 (by omega) ln_284 rfl (by omega) ?_
        refine gx_iinc (v := ((k + 1 : Nat) : Int)) (lv' := [(1, vI ((k + 1 : Nat) : Int)), (0, vR 279)]) 0 dX10_passes_118 rfl (by omega) ⟨by omega, by omega⟩ (by decide) rfl ?_
        refine go_goto (tgt := 63) dX10_passes_121 rfl ?_
        have e8 : (up2 (ovo B 284 34 k (fun e => if B 281 e < B 284 (e + 34) then B 284 (e + 34) - B 281 e else 0)) 284 (k + 34) ((B 284 (k + 34)) - (B 281 k))) = (ovo B 284 34 (k + 1) (fun e => if B 281 e < B 284 (e + 34) then B 284 (e + 34) - B 281 e else 0)) := by exact ovo_s (by omega) (by first | exact (if_pos (by omega)).symm | exact (if_neg (by omega)).symm)
        rw [e8]
        exact ih (k + 1) (by omega) (by omega)

set_option maxHeartbeats 4000000 in
set_option maxRecDepth 100000 in
theorem lp_X10_passes1 {w L E : Nat} {M : inm} {Q : Nat → rfm → inm → Prop} (hL : Lay10 M L) (hE : M 279 2 = (E : Int) ∧ E ≤ 5) (hT : ∀ e, e < E → 0 ≤ M 284 (e + 34) ∧ M 284 (e + 34) ≤ 9999) (hq : ∀ e, e < E → 1 ≤ M 281 e ∧ M 281 e ≤ 9) (hy : 0 ≤ M 284 25 ∧ M 284 25 ≤ 1000000) (hQ : Q 303 (PP w) (rYear M L E)) : ∀ (d k : Nat), L < k + d → k ≤ L → Go S0 yX10_passes cX10_passes 2 0 0 0 none 2 [(1, vI ((k : Nat) : Int)), (0, vR 279)] [] 303 (PP w) (ovo M 284 13 k (fun j => M 284 (j + 13) + (if M 284 (j + 1) = 3 ∧ M 284 (j + 13) < 20 then 1 else 0))) (fun v n P M => v = none ∧ Q n P M) := by
  have hE5 := hE.2
  have hL12 := hL.2.1
  intro d
  induction d with
  | zero => intro k h1 h2; exfalso; omega
  | succ d ih =>
    intro k h1 h2
    refine go_iload_n 0 dX10_passes_2 rfl rfl ?_
    refine go_aload_n 1 dX10_passes_3 rfl rfl ?_
    refine go_getR (r := 284) dX10_passes_4 lk10_22.get kd_279 (by omega) rfl (pp_279_8 w) ?_
    refine go_iconst dX10_passes_7 (by decide) ?_
    refine gx_iaload (v := ((L : Nat) : Int)) 0 dX10_passes_8 kd_284 (by omega) ln_284 (by omega) (by omega) (((ovo_out (by omega)).trans hL.1)) ?_
    refine go_icmp_ge (tgt := 61) dX10_passes_9 rfl (fun c1 => ?_) (fun c1 => ?_)
    · refine go_iconst dX10_passes_61 (by decide) ?_
      refine go_istore_n (lv' := [(1, vI 0), (0, vR 279)]) dX10_passes_62 rfl (by decide) rfl ?_
      have hk : k = L := by omega
      subst hk
      refine go_m (M' := ovo (rY1 M k) 284 34 0 (fun e => if (rY1 M k) 281 e < (rY1 M k) 284 (e + 34) then (rY1 M k) 284 (e + 34) - (rY1 M k) 281 e else 0)) ovo_0.symm ?_
      exact lp_X10_passes2 (B := rY1 M k) ⟨(ovo_out (by omega)).trans hE.1, hE.2⟩ (fun e he => by rw [rY1, ovo_out (by omega)]; exact hT e he) (fun e he => by rw [rY1, ovo_out (by omega)]; exact hq e he) (by rw [rY1, ovo_out (by omega)]; exact hy) hQ (E + 1) 0 (by omega) (by omega)
    · refine go_aload_n 1 dX10_passes_12 rfl rfl ?_
      refine go_getR (r := 284) dX10_passes_13 lk10_22.get kd_279 (by omega) rfl (pp_279_8 w) ?_
      refine go_bipush dX10_passes_16 (by decide) (by decide) ?_
      refine go_iload_n 0 dX10_passes_18 rfl rfl ?_
      refine gx_iadd (v := ((k + 13 : Nat) : Int)) dX10_passes_19 (by omega) ⟨by omega, by omega⟩ ?_
      refine go_dup2 dX10_passes_20 rfl rfl ?_
      have f2 := hL.2.2.1 k (by omega)
      refine gx_iaload (v := (M 284 (k + 13))) (k + 13) dX10_passes_21 kd_284 (by omega) ln_284 rfl (by omega) ((ovo_out (by omega))) ?_
      refine go_aload_n 1 dX10_passes_22 rfl rfl ?_
      refine go_getR (r := 284) dX10_passes_23 lk10_22.get kd_279 (by omega) rfl (pp_279_8 w) ?_
      refine go_iconst dX10_passes_26 (by decide) ?_
      refine go_iload_n 0 dX10_passes_27 rfl rfl ?_
      refine gx_iadd (v := ((k + 1 : Nat) : Int)) dX10_passes_28 (by omega) ⟨by omega, by omega⟩ ?_
      refine gx_iaload (v := (M 284 (k + 1))) (k + 1) dX10_passes_29 kd_284 (by omega) ln_284 rfl (by omega) ((ovo_out (by omega))) ?_
      refine go_iconst dX10_passes_30 (by decide) ?_
      refine go_icmp_ne (tgt := 52) dX10_passes_31 rfl (fun c3 => ?_) (fun c3 => ?_)
      · refine go_iconst dX10_passes_52 (by decide) ?_
        refine gx_iadd (v := ((M 284 (k + 13)) + 0)) dX10_passes_53 rfl ⟨by omega, by omega⟩ ?_
        refine gx_iastore (k + 13) dX10_passes_54 kd_284 (by omega) ln_284 rfl (by omega) ?_
        refine gx_iinc (v := ((k + 1 : Nat) : Int)) (lv' := [(1, vI ((k + 1 : Nat) : Int)), (0, vR 279)]) 0 dX10_passes_55 rfl (by omega) ⟨by omega, by omega⟩ (by decide) rfl ?_
        refine go_goto (tgt := 2) dX10_passes_58 rfl ?_
        have e4 : (up2 (ovo M 284 13 k (fun j => M 284 (j + 13) + (if M 284 (j + 1) = 3 ∧ M 284 (j + 13) < 20 then 1 else 0))) 284 (k + 13) ((M 284 (k + 13)) + 0)) = (ovo M 284 13 (k + 1) (fun j => M 284 (j + 13) + (if M 284 (j + 1) = 3 ∧ M 284 (j + 13) < 20 then 1 else 0))) := by exact ovo_s (by omega) (by first | (rw [if_pos (by omega)]; done) | (rw [if_neg (by omega)]; done))
        rw [e4]
        exact ih (k + 1) (by omega) (by omega)
      · refine go_aload_n 1 dX10_passes_34 rfl rfl ?_
        refine go_getR (r := 284) dX10_passes_35 lk10_22.get kd_279 (by omega) rfl (pp_279_8 w) ?_
        refine go_bipush dX10_passes_38 (by decide) (by decide) ?_
        refine go_iload_n 0 dX10_passes_40 rfl rfl ?_
        refine gx_iadd (v := ((k + 13 : Nat) : Int)) dX10_passes_41 (by omega) ⟨by omega, by omega⟩ ?_
        have f5 := hL.2.2.1 k (by omega)
        refine gx_iaload (v := (M 284 (k + 13))) (k + 13) dX10_passes_42 kd_284 (by omega) ln_284 rfl (by omega) ((ovo_out (by omega))) ?_
        refine go_bipush dX10_passes_43 (by decide) (by decide) ?_
        refine go_icmp_ge (tgt := 52) dX10_passes_45 rfl (fun c6 => ?_) (fun c6 => ?_)
        · refine go_iconst dX10_passes_52 (by decide) ?_
          refine gx_iadd (v := ((M 284 (k + 13)) + 0)) dX10_passes_53 rfl ⟨by omega, by omega⟩ ?_
          refine gx_iastore (k + 13) dX10_passes_54 kd_284 (by omega) ln_284 rfl (by omega) ?_
          refine gx_iinc (v := ((k + 1 : Nat) : Int)) (lv' := [(1, vI ((k + 1 : Nat) : Int)), (0, vR 279)]) 0 dX10_passes_55 rfl (by omega) ⟨by omega, by omega⟩ (by decide) rfl ?_
          refine go_goto (tgt := 2) dX10_passes_58 rfl ?_
          have e7 : (up2 (ovo M 284 13 k (fun j => M 284 (j + 13) + (if M 284 (j + 1) = 3 ∧ M 284 (j + 13) < 20 then 1 else 0))) 284 (k + 13) ((M 284 (k + 13)) + 0)) = (ovo M 284 13 (k + 1) (fun j => M 284 (j + 13) + (if M 284 (j + 1) = 3 ∧ M 284 (j + 13) < 20 then 1 else 0))) := by exact ovo_s (by omega) (by first | (rw [if_pos (by omega)]; done) | (rw [if_neg (by omega)]; done))
          rw [e7]
          exact ih (k + 1) (by omega) (by omega)
        · refine go_iconst dX10_passes_48 (by decide) ?_
          refine go_goto (tgt := 53) dX10_passes_49 rfl ?_
          refine gx_iadd (v := ((M 284 (k + 13)) + 1)) dX10_passes_53 rfl ⟨by omega, by omega⟩ ?_
          refine gx_iastore (k + 13) dX10_passes_54 kd_284 (by omega) ln_284 rfl (by omega) ?_
          refine gx_iinc (v := ((k + 1 : Nat) : Int)) (lv' := [(1, vI ((k + 1 : Nat) : Int)), (0, vR 279)]) 0 dX10_passes_55 rfl (by omega) ⟨by omega, by omega⟩ (by decide) rfl ?_
          refine go_goto (tgt := 2) dX10_passes_58 rfl ?_
          have e8 : (up2 (ovo M 284 13 k (fun j => M 284 (j + 13) + (if M 284 (j + 1) = 3 ∧ M 284 (j + 13) < 20 then 1 else 0))) 284 (k + 13) ((M 284 (k + 13)) + 1)) = (ovo M 284 13 (k + 1) (fun j => M 284 (j + 13) + (if M 284 (j + 1) = 3 ∧ M 284 (j + 13) < 20 then 1 else 0))) := by exact ovo_s (by omega) (by first | (rw [if_pos (by omega)]; done) | (rw [if_neg (by omega)]; done))
          rw [e8]
          exact ih (k + 1) (by omega) (by omega)

set_option maxHeartbeats 4000000 in
set_option maxRecDepth 100000 in
theorem ok_X10_passes {w L E : Nat} {M : inm} {Q : Nat → rfm → inm → Prop} (hL : Lay10 M L) (hE : M 279 2 = (E : Int) ∧ E ≤ 5) (hT : ∀ e, e < E → 0 ≤ M 284 (e + 34) ∧ M 284 (e + 34) ≤ 9999) (hq : ∀ e, e < E → 1 ≤ M 281 e ∧ M 281 e ≤ 9) (hy : 0 ≤ M 284 25 ∧ M 284 25 ≤ 1000000) (hQ : Q 303 (PP w) (rYear M L E)) : OkV yX10_passes cX10_passes 2 0 0 0 [vR 279] 303 (PP w) M Q := by
  refine OkV.of (by decide +kernel) (by decide +kernel) (Nat.le_of_ble_eq_true rfl) ?_
  refine go_eq (lv' := [(0, vR 279)]) rfl rfl rfl rfl rfl ?_
  refine go_iconst dX10_passes_0 (by decide) ?_
  refine go_istore_n (lv' := [(1, vI 0), (0, vR 279)]) dX10_passes_1 rfl (by decide) rfl ?_
  refine go_m (M' := ovo M 284 13 0 (fun j => M 284 (j + 13) + (if M 284 (j + 1) = 3 ∧ M 284 (j + 13) < 20 then 1 else 0))) ovo_0.symm ?_
  exact lp_X10_passes1 hL hE hT hq hy hQ (L + 1) 0 (by omega) (by omega)

set_option maxHeartbeats 4000000 in
set_option maxRecDepth 100000 in
theorem ok_X10_draw {w : Nat} {u : Int} {M : inm} {Q : Int → Nat → rfm → inm → Prop} (hs : 0 ≤ M 279 9 ∧ M 279 9 ≤ 2147483647) (hu : 1 ≤ u) (hQ : Q (drawR (M 279 9) / 65536 % u) 303 (PP w) (up2 M 279 9 (drawR (M 279 9)))) : OkI yX10_draw cX10_draw 2 0 0 0 (some .int) [vR 279, vI u] 303 (PP w) M Q := by
  refine OkI.of (by decide +kernel) (by decide +kernel) (Nat.le_of_ble_eq_true rfl) ?_
  refine go_eq (lv' := [(0, vR 279), (1, vI u)]) rfl rfl rfl rfl rfl ?_
  refine go_aload_n 0 dX10_draw_0 rfl rfl ?_
  refine go_aload_n 0 dX10_draw_1 rfl rfl ?_
  refine gx_getI (v := (M 279 9)) dX10_draw_2 lk10_266.get kd_279 (by omega) rfl rfl ?_
  refine go_i2l dX10_draw_5 ?_
  refine go_ldc2 dX10_draw_6 jk10_269 (by decide) ?_
  refine go_lmul dX10_draw_9 ⟨by omega, by omega⟩ ?_
  refine go_ldc2 dX10_draw_10 jk10_271 (by decide) ?_
  refine go_ladd dX10_draw_13 ⟨by omega, by omega⟩ ?_
  refine go_ldc2 dX10_draw_14 jk10_273 (by decide) ?_
  refine go_lrem dX10_draw_17 (by omega) (by omega) ?_
  refine go_l2i dX10_draw_18 ⟨by omega, by omega⟩ ?_
  refine go_putI dX10_draw_19 (Or.inl lk10_266) kd_279 (by omega) rfl (Or.inl rfl) ?_
  refine go_aload_n 0 dX10_draw_22 rfl rfl ?_
  refine gx_getI (v := ((((M 279 9) * 1103515245) + 12345) % 2147483648)) dX10_draw_23 lk10_266.get kd_279 (by omega) rfl up2_same ?_
  refine go_ldcw dX10_draw_26 ik10_275 (by decide) ?_
  refine gx_idiv (v := (((((M 279 9) * 1103515245) + 12345) % 2147483648) / 65536)) dX10_draw_29 rfl (by omega) (by omega) ?_
  refine go_iload_n 1 dX10_draw_30 rfl rfl ?_
  refine gx_irem (v := ((((((M 279 9) * 1103515245) + 12345) % 2147483648) / 65536) % u)) dX10_draw_31 rfl (by omega) (by omega) ?_
  refine go_iret dX10_draw_32 rfl rfl ⟨_, rfl, ?_⟩
  exact hQ

def rBack (M : inm) (v : Nat) : inm := cp2 (up2 M 279 33 (v : Int)) 297 (125 * v) 284 0 125
set_option maxHeartbeats 4000000 in
set_option maxRecDepth 100000 in
theorem lp_X10_undo {w v n : Nat} {B : inm} {Q : Int → Nat → rfm → inm → Prop} (hB : B 279 33 = (v : Int)) (hv : v < 30) (hQ : Q ((cp2 B 297 (125 * v) 284 0 125) 284 25) 303 (PP w) (cp2 B 297 (125 * v) 284 0 125)) : ∀ (d k : Nat), 125 < k + d → k ≤ 125 → Go S0 yX10_undo cX10_undo 3 1 0 0 (some .int) 38 [(2, vI ((k : Nat) : Int)), (0, vR 279), (1, vI ((n : Nat) : Int))] [] 303 (PP w) (cp2 B 297 (125 * v) 284 0 k) (fun v n P M => ∃ z, v = some (vI z) ∧ Q z n P M) := by
  intro d
  induction d with
  | zero => intro k h1 h2; exfalso; omega
  | succ d ih =>
    intro k h1 h2
    refine go_iload_n 0 dX10_undo_38 rfl rfl ?_
    refine go_bipush dX10_undo_39 (by decide) (by decide) ?_
    refine go_icmp_ge (tgt := 70) dX10_undo_41 rfl (fun c1 => ?_) (fun c1 => ?_)
    · have hk : k = 125 := by omega
      subst hk
      refine go_lv [1] rfl ?_
      refine go_aload_n 0 dX10_undo_70 rfl rfl ?_
      refine go_getR (r := 284) dX10_undo_71 lk10_22.get kd_279 (by omega) rfl (pp_279_8 w) ?_
      refine go_bipush dX10_undo_74 (by decide) (by decide) ?_
      refine gx_iaload (v := ((cp2 B 297 (125 * v) 284 0 125) 284 25)) 25 dX10_undo_76 kd_284 (by omega) ln_284 (by omega) (by omega) rfl ?_
      refine go_iret dX10_undo_77 rfl rfl ⟨_, rfl, ?_⟩
      exact hQ
    · refine go_aload_n 1 dX10_undo_44 rfl rfl ?_
      refine go_getR (r := 284) dX10_undo_45 lk10_22.get kd_279 (by omega) rfl (pp_279_8 w) ?_
      refine go_iload_n 0 dX10_undo_48 rfl rfl ?_
      refine go_aload_n 1 dX10_undo_49 rfl rfl ?_
      refine go_getR (r := 297) dX10_undo_50 lk10_65.get kd_279 (by omega) rfl (pp_279_34 w) ?_
      refine go_bipush dX10_undo_53 (by decide) (by decide) ?_
      refine go_aload_n 1 dX10_undo_55 rfl rfl ?_
      refine gx_getI (v := ((v : Nat) : Int)) dX10_undo_56 lk10_179.get kd_279 (by omega) rfl (((cp2_ne (by omega)).trans hB)) ?_
      refine gx_imul (v := ((125 * v : Nat) : Int)) dX10_undo_59 (by omega) ⟨by omega, by omega⟩ ?_
      refine go_iload_n 0 dX10_undo_60 rfl rfl ?_
      refine gx_iadd (v := (((125 * v) + k : Nat) : Int)) dX10_undo_61 (by omega) ⟨by omega, by omega⟩ ?_
      refine gx_iaload (v := ((cp2 B 297 (125 * v) 284 0 k) 297 ((125 * v) + k))) ((125 * v) + k) dX10_undo_62 kd_297 (by omega) ln_297 rfl (by omega) rfl ?_
      refine gx_iastore k dX10_undo_63 kd_284 (by omega) ln_284 rfl (by omega) ?_
      refine gx_iinc (v := ((k + 1 : Nat) : Int)) (lv' := [(2, vI ((k + 1 : Nat) : Int)), (0, vR 279), (1, vI ((n : Nat) : Int))]) 0 dX10_undo_64 rfl (by omega) ⟨by omega, by omega⟩ (by decide) rfl ?_
      refine go_goto (tgt := 38) dX10_undo_67 rfl ?_
      have e2 : (up2 (cp2 B 297 (125 * v) 284 0 k) 284 k ((cp2 B 297 (125 * v) 284 0 k) 297 ((125 * v) + k))) = (cp2 B 297 (125 * v) 284 0 (k + 1)) := by exact cp2_s (by omega) (by omega) (by omega)
      rw [e2]
      exact ih (k + 1) (by omega) (by omega)

set_option maxHeartbeats 4000000 in
set_option maxRecDepth 100000 in
theorem ok_X10_undo_in {w u n : Nat} {M : inm} {Q : Int → Nat → rfm → inm → Prop} (hu : M 279 33 = (u : Int)) (hu30 : u ≤ 30) (hn : 1 ≤ n ∧ n ≤ u) (hQ : Q (rBack M (u - n) 284 25) 303 (PP w) (rBack M (u - n))) : OkI yX10_undo cX10_undo 3 1 0 0 (some .int) [vR 279, vI ((n : Nat) : Int)] 303 (PP w) M Q := by
  refine OkI.of (by decide +kernel) (by decide +kernel) (Nat.le_of_ble_eq_true rfl) ?_
  refine go_eq (lv' := [(0, vR 279), (1, vI ((n : Nat) : Int))]) rfl rfl rfl rfl rfl ?_
  refine go_iload_n 1 dX10_undo_0 rfl rfl ?_
  refine go_i2l dX10_undo_1 ?_
  refine go_lconst (z := 1) dX10_undo_2 (by decide) (by decide) ?_
  refine go_ldc2 dX10_undo_3 jk10_258 (by decide) ?_
  refine go_callSI (av := [vL ((n : Nat) : Int), vL 1, vL 30]) (st := []) (mc2 := 0) (ms2 := 0) dX10_undo_6 cw10_87 (by decide) rfl rfl (Nat.le_of_ble_eq_true rfl) rfl rfl (ok_X10_in (fun _ _ => ?_) (fun h => absurd ⟨by omega, by omega⟩ h))
  refine go_if_ne (tgt := 15) dX10_undo_9 rfl (fun c1 => ?_) (fun c1 => ?_)
  · refine go_iload_n 1 dX10_undo_15 rfl rfl ?_
    refine go_aload_n 0 dX10_undo_16 rfl rfl ?_
    refine gx_getI (v := ((u : Nat) : Int)) dX10_undo_17 lk10_179.get kd_279 (by omega) rfl hu ?_
    refine go_icmp_le (tgt := 26) dX10_undo_20 rfl (fun c2 => ?_) (fun c2 => ?_)
    · refine go_aload_n 0 dX10_undo_26 rfl rfl ?_
      refine go_dup dX10_undo_27 rfl ?_
      refine gx_getI (v := ((u : Nat) : Int)) dX10_undo_28 lk10_179.get kd_279 (by omega) rfl hu ?_
      refine go_iload_n 1 dX10_undo_31 rfl rfl ?_
      refine gx_isub (v := ((u - n : Nat) : Int)) dX10_undo_32 (by omega) ⟨by omega, by omega⟩ ?_
      refine go_putI dX10_undo_33 (Or.inl lk10_179) kd_279 (by omega) rfl (Or.inl rfl) ?_
      refine go_iconst dX10_undo_36 (by decide) ?_
      refine go_istore_n (lv' := [(2, vI 0), (0, vR 279), (1, vI ((n : Nat) : Int))]) dX10_undo_37 rfl (by decide) rfl ?_
      refine go_m (M' := cp2 (up2 M 279 33 ((u - n : Nat) : Int)) 297 (125 * (u - n)) 284 0 0) cp2_0.symm ?_
      exact lp_X10_undo (v := u - n) up2_same (by omega) hQ 126 0 (by omega) (by omega)
    · exact absurd c2 (by omega)
  · exact absurd c1 (by decide)

set_option maxHeartbeats 4000000 in
set_option maxRecDepth 100000 in
theorem ok_X10_undo_out {w u : Nat} {a : Int} {M : inm} {Q : Int → Nat → rfm → inm → Prop} (hu : M 279 33 = (u : Int)) (hu30 : u ≤ 30) (hk : ¬ (1 ≤ a ∧ a ≤ (u : Int))) (h0 : ¬ (1 ≤ a ∧ a ≤ 30) → Q (-1000000002) 303 (PP w) M) (h1 : (1 ≤ a ∧ a ≤ 30) → (u : Int) < a → Q (-1000000003) 303 (PP w) M) : OkI yX10_undo cX10_undo 3 1 0 0 (some .int) [vR 279, vI a] 303 (PP w) M Q := by
  refine OkI.of (by decide +kernel) (by decide +kernel) (Nat.le_of_ble_eq_true rfl) ?_
  refine go_eq (lv' := [(0, vR 279), (1, vI a)]) rfl rfl rfl rfl rfl ?_
  refine go_iload_n 1 dX10_undo_0 rfl rfl ?_
  refine go_i2l dX10_undo_1 ?_
  refine go_lconst (z := 1) dX10_undo_2 (by decide) (by decide) ?_
  refine go_ldc2 dX10_undo_3 jk10_258 (by decide) ?_
  refine go_callSI (av := [vL a, vL 1, vL 30]) (st := []) (mc2 := 0) (ms2 := 0) dX10_undo_6 cw10_87 (by decide) rfl rfl (Nat.le_of_ble_eq_true rfl) rfl rfl (ok_X10_in (fun i1 i2 => ?_) (fun i3 => ?_))
  · skip
    refine go_if_ne (tgt := 15) dX10_undo_9 rfl (fun c4 => ?_) (fun c4 => ?_)
    · refine go_iload_n 1 dX10_undo_15 rfl rfl ?_
      refine go_aload_n 0 dX10_undo_16 rfl rfl ?_
      refine gx_getI (v := ((u : Nat) : Int)) dX10_undo_17 lk10_179.get kd_279 (by omega) rfl hu ?_
      refine go_icmp_le (tgt := 26) dX10_undo_20 rfl (fun c5 => ?_) (fun c5 => ?_)
      · exfalso; omega
      · refine go_ldc dX10_undo_23 ik10_248 (by decide) ?_
        refine go_iret dX10_undo_25 rfl rfl ⟨_, rfl, ?_⟩
        first | exact h0 (by omega) | exact h1 (by omega) (by omega)
    · exact absurd c4 (by decide)
  · skip
    refine go_if_ne (tgt := 15) dX10_undo_9 rfl (fun c6 => ?_) (fun c6 => ?_)
    · exact absurd c6 (by decide)
    · refine go_ldc dX10_undo_12 ik10_96 (by decide) ?_
      refine go_iret dX10_undo_14 rfl rfl ⟨_, rfl, ?_⟩
      first | exact h0 (by omega) | exact h1 (by omega) (by omega)

def rKeep (M : inm) (i : Nat) : inm := up2 (up2 (up2 (cp2 M 284 0 301 (126 * i) 125) 301 (126 * i + 125) (M 279 9)) 302 i 1) 279 33 0
def rGoBack (M : inm) (i : Nat) : inm := up2 (up2 (cp2 M 301 (126 * i) 284 0 125) 279 9 (M 301 (126 * i + 125))) 279 33 0
set_option maxHeartbeats 4000000 in
set_option maxRecDepth 100000 in
theorem lp_X10_keep {w i : Nat} {M : inm} {Q : Int → Nat → rfm → inm → Prop} (hi : i < 2) (hQ : Q 1 303 (PP w) (rKeep M i)) : ∀ (d k : Nat), 125 < k + d → k ≤ 125 → Go S0 yX10_keep cX10_keep 3 1 0 0 (some .int) 15 [(2, vI ((k : Nat) : Int)), (0, vR 279), (1, vI ((i : Nat) : Int))] [] 303 (PP w) (cp2 M 284 0 301 (126 * i) k) (fun v n P M => ∃ z, v = some (vI z) ∧ Q z n P M) := by
  intro d
  induction d with
  | zero => intro k h1 h2; exfalso; omega
  | succ d ih =>
    intro k h1 h2
    refine go_iload_n 0 dX10_keep_15 rfl rfl ?_
    refine go_bipush dX10_keep_16 (by decide) (by decide) ?_
    refine go_icmp_ge (tgt := 44) dX10_keep_18 rfl (fun c1 => ?_) (fun c1 => ?_)
    · have hk : k = 125 := by omega
      subst hk
      refine go_lv [1, 2] rfl ?_
      refine go_aload_n 0 dX10_keep_44 rfl rfl ?_
      refine go_getR (r := 301) dX10_keep_45 lk10_77.get kd_279 (by omega) rfl (pp_279_38 w) ?_
      refine go_bipush dX10_keep_48 (by decide) (by decide) ?_
      refine go_iload_n 1 dX10_keep_50 rfl rfl ?_
      refine gx_imul (v := ((126 * i : Nat) : Int)) dX10_keep_51 (by omega) ⟨by omega, by omega⟩ ?_
      refine go_bipush dX10_keep_52 (by decide) (by decide) ?_
      refine gx_iadd (v := ((126 * i + 125 : Nat) : Int)) dX10_keep_54 (by omega) ⟨by omega, by omega⟩ ?_
      refine go_aload_n 0 dX10_keep_55 rfl rfl ?_
      refine gx_getI (v := (M 279 9)) dX10_keep_56 lk10_266.get kd_279 (by omega) rfl ((cp2_ne (by omega))) ?_
      refine gx_iastore (126 * i + 125) dX10_keep_59 kd_301 (by omega) ln_301 rfl (by omega) ?_
      refine go_aload_n 0 dX10_keep_60 rfl rfl ?_
      refine go_getR (r := 302) dX10_keep_61 lk10_80.get kd_279 (by omega) rfl (pp_279_39 w) ?_
      refine go_iload_n 1 dX10_keep_64 rfl rfl ?_
      refine go_iconst dX10_keep_65 (by decide) ?_
      refine gx_bastore i dX10_keep_66 kd_302 (by omega) rfl ln_302 rfl (by omega) (by omega) ?_
      refine go_aload_n 0 dX10_keep_67 rfl rfl ?_
      refine go_iconst dX10_keep_68 (by decide) ?_
      refine go_putI dX10_keep_69 (Or.inl lk10_179) kd_279 (by omega) rfl (Or.inl rfl) ?_
      refine go_iconst dX10_keep_72 (by decide) ?_
      refine go_iret dX10_keep_73 rfl rfl ⟨_, rfl, ?_⟩
      exact hQ
    · refine go_aload_n 1 dX10_keep_21 rfl rfl ?_
      refine go_getR (r := 301) dX10_keep_22 lk10_77.get kd_279 (by omega) rfl (pp_279_38 w) ?_
      refine go_bipush dX10_keep_25 (by decide) (by decide) ?_
      refine go_iload_n 2 dX10_keep_27 rfl rfl ?_
      refine gx_imul (v := ((126 * i : Nat) : Int)) dX10_keep_28 (by omega) ⟨by omega, by omega⟩ ?_
      refine go_iload_n 0 dX10_keep_29 rfl rfl ?_
      refine gx_iadd (v := (((126 * i) + k : Nat) : Int)) dX10_keep_30 (by omega) ⟨by omega, by omega⟩ ?_
      refine go_aload_n 1 dX10_keep_31 rfl rfl ?_
      refine go_getR (r := 284) dX10_keep_32 lk10_22.get kd_279 (by omega) rfl (pp_279_8 w) ?_
      refine go_iload_n 0 dX10_keep_35 rfl rfl ?_
      refine gx_iaload (v := ((cp2 M 284 0 301 (126 * i) k) 284 k)) k dX10_keep_36 kd_284 (by omega) ln_284 rfl (by omega) rfl ?_
      refine gx_iastore ((126 * i) + k) dX10_keep_37 kd_301 (by omega) ln_301 rfl (by omega) ?_
      refine gx_iinc (v := ((k + 1 : Nat) : Int)) (lv' := [(2, vI ((k + 1 : Nat) : Int)), (0, vR 279), (1, vI ((i : Nat) : Int))]) 0 dX10_keep_38 rfl (by omega) ⟨by omega, by omega⟩ (by decide) rfl ?_
      refine go_goto (tgt := 15) dX10_keep_41 rfl ?_
      have e2 : (up2 (cp2 M 284 0 301 (126 * i) k) 301 ((126 * i) + k) ((cp2 M 284 0 301 (126 * i) k) 284 k)) = (cp2 M 284 0 301 (126 * i) (k + 1)) := by exact cp2_s (by omega) (by omega) (by omega)
      rw [e2]
      exact ih (k + 1) (by omega) (by omega)

set_option maxHeartbeats 4000000 in
set_option maxRecDepth 100000 in
theorem ok_X10_keep_in {w i : Nat} {M : inm} {Q : Int → Nat → rfm → inm → Prop} (hi : i < 2) (hQ : Q 1 303 (PP w) (rKeep M i)) : OkI yX10_keep cX10_keep 3 1 0 0 (some .int) [vR 279, vI ((i : Nat) : Int)] 303 (PP w) M Q := by
  refine OkI.of (by decide +kernel) (by decide +kernel) (Nat.le_of_ble_eq_true rfl) ?_
  refine go_eq (lv' := [(0, vR 279), (1, vI ((i : Nat) : Int))]) rfl rfl rfl rfl rfl ?_
  refine go_iload_n 1 dX10_keep_0 rfl rfl ?_
  refine go_i2l dX10_keep_1 ?_
  refine go_lconst (z := 0) dX10_keep_2 (by decide) (by decide) ?_
  refine go_lconst (z := 1) dX10_keep_3 (by decide) (by decide) ?_
  refine go_callSI (av := [vL ((i : Nat) : Int), vL 0, vL 1]) (st := []) (mc2 := 0) (ms2 := 0) dX10_keep_4 cw10_87 (by decide) rfl rfl (Nat.le_of_ble_eq_true rfl) rfl rfl (ok_X10_in (fun _ _ => ?_) (fun h => absurd ⟨by omega, by omega⟩ h))
  refine go_if_ne (tgt := 13) dX10_keep_7 rfl (fun c1 => ?_) (fun c1 => ?_)
  · refine go_iconst dX10_keep_13 (by decide) ?_
    refine go_istore_n (lv' := [(2, vI 0), (0, vR 279), (1, vI ((i : Nat) : Int))]) dX10_keep_14 rfl (by decide) rfl ?_
    refine go_m (M' := cp2 M 284 0 301 (126 * i) 0) cp2_0.symm ?_
    exact lp_X10_keep hi hQ 126 0 (by omega) (by omega)
  · exact absurd c1 (by decide)

set_option maxHeartbeats 4000000 in
set_option maxRecDepth 100000 in
theorem ok_X10_keep_out {w : Nat} {a : Int} {M : inm} {Q : Int → Nat → rfm → inm → Prop} (hk : ¬ (0 ≤ a ∧ a < 2)) (hQ : Q (-1000000001) 303 (PP w) M) : OkI yX10_keep cX10_keep 3 1 0 0 (some .int) [vR 279, vI a] 303 (PP w) M Q := by
  refine OkI.of (by decide +kernel) (by decide +kernel) (Nat.le_of_ble_eq_true rfl) ?_
  refine go_eq (lv' := [(0, vR 279), (1, vI a)]) rfl rfl rfl rfl rfl ?_
  refine go_iload_n 1 dX10_keep_0 rfl rfl ?_
  refine go_i2l dX10_keep_1 ?_
  refine go_lconst (z := 0) dX10_keep_2 (by decide) (by decide) ?_
  refine go_lconst (z := 1) dX10_keep_3 (by decide) (by decide) ?_
  refine go_callSI (av := [vL a, vL 0, vL 1]) (st := []) (mc2 := 0) (ms2 := 0) dX10_keep_4 cw10_87 (by decide) rfl rfl (Nat.le_of_ble_eq_true rfl) rfl rfl (ok_X10_in (fun i1 i2 => ?_) (fun i3 => ?_))
  · skip
    refine go_if_ne (tgt := 13) dX10_keep_7 rfl (fun c4 => ?_) (fun c4 => ?_)
    · exfalso; omega
    · exact absurd c4 (by decide)
  · skip
    refine go_if_ne (tgt := 13) dX10_keep_7 rfl (fun c5 => ?_) (fun c5 => ?_)
    · exact absurd c5 (by decide)
    · refine go_ldc dX10_keep_10 ik10_223 (by decide) ?_
      refine go_iret dX10_keep_12 rfl rfl ⟨_, rfl, ?_⟩
      exact hQ

set_option maxHeartbeats 4000000 in
set_option maxRecDepth 100000 in
theorem ok_X10_goBack_out {w : Nat} {a : Int} {M : inm} {Q : Int → Nat → rfm → inm → Prop} (hk : ¬ (0 ≤ a ∧ a < 2)) (hQ : Q (-1000000001) 303 (PP w) M) : OkI yX10_goBack cX10_goBack 3 1 0 0 (some .int) [vR 279, vI a] 303 (PP w) M Q := by
  refine OkI.of (by decide +kernel) (by decide +kernel) (Nat.le_of_ble_eq_true rfl) ?_
  refine go_eq (lv' := [(0, vR 279), (1, vI a)]) rfl rfl rfl rfl rfl ?_
  refine go_iload_n 1 dX10_goBack_0 rfl rfl ?_
  refine go_i2l dX10_goBack_1 ?_
  refine go_lconst (z := 0) dX10_goBack_2 (by decide) (by decide) ?_
  refine go_lconst (z := 1) dX10_goBack_3 (by decide) (by decide) ?_
  refine go_callSI (av := [vL a, vL 0, vL 1]) (st := []) (mc2 := 0) (ms2 := 0) dX10_goBack_4 cw10_87 (by decide) rfl rfl (Nat.le_of_ble_eq_true rfl) rfl rfl (ok_X10_in (fun i1 i2 => ?_) (fun i3 => ?_))
  · skip
    refine go_if_ne (tgt := 13) dX10_goBack_7 rfl (fun c4 => ?_) (fun c4 => ?_)
    · exfalso; omega
    · exact absurd c4 (by decide)
  · skip
    refine go_if_ne (tgt := 13) dX10_goBack_7 rfl (fun c5 => ?_) (fun c5 => ?_)
    · exact absurd c5 (by decide)
    · refine go_ldc dX10_goBack_10 ik10_223 (by decide) ?_
      refine go_iret dX10_goBack_12 rfl rfl ⟨_, rfl, ?_⟩
      exact hQ

set_option maxHeartbeats 4000000 in
set_option maxRecDepth 100000 in
theorem lp_X10_goBack {w i : Nat} {M : inm} {Q : Int → Nat → rfm → inm → Prop} (hi : i < 2) (hQ : Q 1 303 (PP w) (rGoBack M i)) : ∀ (d k : Nat), 125 < k + d → k ≤ 125 → Go S0 yX10_goBack cX10_goBack 3 1 0 0 (some .int) 27 [(2, vI ((k : Nat) : Int)), (0, vR 279), (1, vI ((i : Nat) : Int))] [] 303 (PP w) (cp2 M 301 (126 * i) 284 0 k) (fun v n P M => ∃ z, v = some (vI z) ∧ Q z n P M) := by
  intro d
  induction d with
  | zero => intro k h1 h2; exfalso; omega
  | succ d ih =>
    intro k h1 h2
    refine go_iload_n 0 dX10_goBack_27 rfl rfl ?_
    refine go_bipush dX10_goBack_28 (by decide) (by decide) ?_
    refine go_icmp_ge (tgt := 56) dX10_goBack_30 rfl (fun c1 => ?_) (fun c1 => ?_)
    · have hk : k = 125 := by omega
      subst hk
      refine go_lv [1, 2] rfl ?_
      refine go_aload_n 0 dX10_goBack_56 rfl rfl ?_
      refine go_aload_n 0 dX10_goBack_57 rfl rfl ?_
      refine go_getR (r := 301) dX10_goBack_58 lk10_77.get kd_279 (by omega) rfl (pp_279_38 w) ?_
      refine go_bipush dX10_goBack_61 (by decide) (by decide) ?_
      refine go_iload_n 1 dX10_goBack_63 rfl rfl ?_
      refine gx_imul (v := ((126 * i : Nat) : Int)) dX10_goBack_64 (by omega) ⟨by omega, by omega⟩ ?_
      refine go_bipush dX10_goBack_65 (by decide) (by decide) ?_
      refine gx_iadd (v := ((126 * i + 125 : Nat) : Int)) dX10_goBack_67 (by omega) ⟨by omega, by omega⟩ ?_
      refine gx_iaload (v := (M 301 (126 * i + 125))) (126 * i + 125) dX10_goBack_68 kd_301 (by omega) ln_301 rfl (by omega) ((cp2_ne (by omega))) ?_
      refine go_putI dX10_goBack_69 (Or.inl lk10_266) kd_279 (by omega) rfl (Or.inl rfl) ?_
      refine go_aload_n 0 dX10_goBack_72 rfl rfl ?_
      refine go_iconst dX10_goBack_73 (by decide) ?_
      refine go_putI dX10_goBack_74 (Or.inl lk10_179) kd_279 (by omega) rfl (Or.inl rfl) ?_
      refine go_iconst dX10_goBack_77 (by decide) ?_
      refine go_iret dX10_goBack_78 rfl rfl ⟨_, rfl, ?_⟩
      exact hQ
    · refine go_aload_n 1 dX10_goBack_33 rfl rfl ?_
      refine go_getR (r := 284) dX10_goBack_34 lk10_22.get kd_279 (by omega) rfl (pp_279_8 w) ?_
      refine go_iload_n 0 dX10_goBack_37 rfl rfl ?_
      refine go_aload_n 1 dX10_goBack_38 rfl rfl ?_
      refine go_getR (r := 301) dX10_goBack_39 lk10_77.get kd_279 (by omega) rfl (pp_279_38 w) ?_
      refine go_bipush dX10_goBack_42 (by decide) (by decide) ?_
      refine go_iload_n 2 dX10_goBack_44 rfl rfl ?_
      refine gx_imul (v := ((126 * i : Nat) : Int)) dX10_goBack_45 (by omega) ⟨by omega, by omega⟩ ?_
      refine go_iload_n 0 dX10_goBack_46 rfl rfl ?_
      refine gx_iadd (v := (((126 * i) + k : Nat) : Int)) dX10_goBack_47 (by omega) ⟨by omega, by omega⟩ ?_
      refine gx_iaload (v := ((cp2 M 301 (126 * i) 284 0 k) 301 ((126 * i) + k))) ((126 * i) + k) dX10_goBack_48 kd_301 (by omega) ln_301 rfl (by omega) rfl ?_
      refine gx_iastore k dX10_goBack_49 kd_284 (by omega) ln_284 rfl (by omega) ?_
      refine gx_iinc (v := ((k + 1 : Nat) : Int)) (lv' := [(2, vI ((k + 1 : Nat) : Int)), (0, vR 279), (1, vI ((i : Nat) : Int))]) 0 dX10_goBack_50 rfl (by omega) ⟨by omega, by omega⟩ (by decide) rfl ?_
      refine go_goto (tgt := 27) dX10_goBack_53 rfl ?_
      have e2 : (up2 (cp2 M 301 (126 * i) 284 0 k) 284 k ((cp2 M 301 (126 * i) 284 0 k) 301 ((126 * i) + k))) = (cp2 M 301 (126 * i) 284 0 (k + 1)) := by exact cp2_s (by omega) (by omega) (by omega)
      rw [e2]
      exact ih (k + 1) (by omega) (by omega)

set_option maxHeartbeats 4000000 in
set_option maxRecDepth 100000 in
theorem ok_X10_goBack_in {w i : Nat} {M : inm} {Q : Int → Nat → rfm → inm → Prop} (hi : i < 2) (h0 : M 302 i = 0 → Q (-1000000003) 303 (PP w) M) (hQ : ¬ M 302 i = 0 → Q 1 303 (PP w) (rGoBack M i)) : OkI yX10_goBack cX10_goBack 3 1 0 0 (some .int) [vR 279, vI ((i : Nat) : Int)] 303 (PP w) M Q := by
  refine OkI.of (by decide +kernel) (by decide +kernel) (Nat.le_of_ble_eq_true rfl) ?_
  refine go_eq (lv' := [(0, vR 279), (1, vI ((i : Nat) : Int))]) rfl rfl rfl rfl rfl ?_
  refine go_iload_n 1 dX10_goBack_0 rfl rfl ?_
  refine go_i2l dX10_goBack_1 ?_
  refine go_lconst (z := 0) dX10_goBack_2 (by decide) (by decide) ?_
  refine go_lconst (z := 1) dX10_goBack_3 (by decide) (by decide) ?_
  refine go_callSI (av := [vL ((i : Nat) : Int), vL 0, vL 1]) (st := []) (mc2 := 0) (ms2 := 0) dX10_goBack_4 cw10_87 (by decide) rfl rfl (Nat.le_of_ble_eq_true rfl) rfl rfl (ok_X10_in (fun _ _ => ?_) (fun h => absurd ⟨by omega, by omega⟩ h))
  refine go_if_ne (tgt := 13) dX10_goBack_7 rfl (fun c1 => ?_) (fun c1 => ?_)
  · refine go_aload_n 0 dX10_goBack_13 rfl rfl ?_
    refine go_getR (r := 302) dX10_goBack_14 lk10_80.get kd_279 (by omega) rfl (pp_279_39 w) ?_
    refine go_iload_n 1 dX10_goBack_17 rfl rfl ?_
    refine gx_baload (v := (M 302 i)) i dX10_goBack_18 kd_302 (by omega) ln_302 rfl (by omega) rfl ?_
    refine go_if_ne (tgt := 25) dX10_goBack_19 rfl (fun c2 => ?_) (fun c2 => ?_)
    · refine go_iconst dX10_goBack_25 (by decide) ?_
      refine go_istore_n (lv' := [(2, vI 0), (0, vR 279), (1, vI ((i : Nat) : Int))]) dX10_goBack_26 rfl (by decide) rfl ?_
      refine go_m (M' := cp2 M 301 (126 * i) 284 0 0) cp2_0.symm ?_
      exact lp_X10_goBack hi (hQ (by omega)) 126 0 (by omega) (by omega)
    · refine go_ldc dX10_goBack_22 ik10_248 (by decide) ?_
      refine go_iret dX10_goBack_24 rfl rfl ⟨_, rfl, ?_⟩
      exact h0 (by omega)
  · exact absurd c1 (by decide)

set_option maxHeartbeats 4000000 in
set_option maxRecDepth 100000 in
theorem lp_X10_judge {w c : Nat} {M : inm} {Q : Int → Nat → rfm → inm → Prop} (hc : M 279 10 = (c : Int)) (h20 : c ≤ 20) (hb : ∀ i, i < c → 0 ≤ M 285 i ∧ M 285 i ≤ 4) : ∀ (d k : Nat), c < k + d → k ≤ c → Q (fst1 (fun i => decide (¬ M 284 (29 + (M 285 i)).toNat = M 286 i)) (c - k) k) 303 (PP w) M → Go S0 yX10_judge cX10_judge 2 0 0 0 (some .int) 2 [(1, vI ((k : Nat) : Int)), (0, vR 279)] [] 303 (PP w) M (fun v n P M => ∃ z, v = some (vI z) ∧ Q z n P M) := by
  intro d
  induction d with
  | zero => intro k h1 h2 hQ; exfalso; omega
  | succ d ih =>
    intro k h1 h2 hQ
    refine go_iload_n 0 dX10_judge_2 rfl rfl ?_
    refine go_aload_n 1 dX10_judge_3 rfl rfl ?_
    refine gx_getI (v := ((c : Nat) : Int)) dX10_judge_4 lk10_176.get kd_279 (by omega) rfl hc ?_
    refine go_icmp_ge (tgt := 41) dX10_judge_7 rfl (fun c1 => ?_) (fun c1 => ?_)
    · refine go_iconst dX10_judge_41 (by decide) ?_
      refine go_iret dX10_judge_42 rfl rfl ⟨_, rfl, ?_⟩
      rw [show c - k = 0 by omega, fst1] at hQ
      exact hQ
    · refine go_aload_n 1 dX10_judge_10 rfl rfl ?_
      refine go_getR (r := 284) dX10_judge_11 lk10_22.get kd_279 (by omega) rfl (pp_279_8 w) ?_
      refine go_bipush dX10_judge_14 (by decide) (by decide) ?_
      refine go_aload_n 1 dX10_judge_16 rfl rfl ?_
      refine go_getR (r := 285) dX10_judge_17 lk10_25.get kd_279 (by omega) rfl (pp_279_11 w) ?_
      refine go_iload_n 0 dX10_judge_20 rfl rfl ?_
      have f2 := hb k (by omega)
      refine gx_iaload (v := (M 285 k)) k dX10_judge_21 kd_285 (by omega) ln_285 rfl (by omega) rfl ?_
      refine gx_iadd (v := (29 + (M 285 k))) dX10_judge_22 rfl ⟨by omega, by omega⟩ ?_
      refine gx_iaload (v := (M 284 (((29 + (M 285 k))).toNat))) (((29 + (M 285 k))).toNat) dX10_judge_23 kd_284 (by omega) ln_284 (by omega) (by omega) rfl ?_
      refine go_aload_n 1 dX10_judge_24 rfl rfl ?_
      refine go_getR (r := 286) dX10_judge_25 lk10_28.get kd_279 (by omega) rfl (pp_279_12 w) ?_
      refine go_iload_n 0 dX10_judge_28 rfl rfl ?_
      refine gx_iaload (v := (M 286 k)) k dX10_judge_29 kd_286 (by omega) ln_286 rfl (by omega) rfl ?_
      refine go_icmp_eq (tgt := 35) dX10_judge_30 rfl (fun c3 => ?_) (fun c3 => ?_)
      · refine gx_iinc (v := ((k + 1 : Nat) : Int)) (lv' := [(1, vI ((k + 1 : Nat) : Int)), (0, vR 279)]) 0 dX10_judge_35 rfl (by omega) ⟨by omega, by omega⟩ (by decide) rfl ?_
        refine go_goto (tgt := 2) dX10_judge_38 rfl ?_
        rw [fst1_go (by omega) (decide_eq_false (by omega))] at hQ; exact ih (k + 1) (by omega) (by omega) hQ
      · refine go_iload_n 0 dX10_judge_33 rfl rfl ?_
        refine go_iret dX10_judge_34 rfl rfl ⟨_, rfl, ?_⟩
        rw [fst1_hit (by omega) (decide_eq_true (by assumption))] at hQ
        exact hQ

set_option maxHeartbeats 4000000 in
set_option maxRecDepth 100000 in
theorem ok_X10_judge {w c : Nat} {M : inm} {Q : Int → Nat → rfm → inm → Prop} (hc : M 279 10 = (c : Int)) (h20 : c ≤ 20) (hb : ∀ i, i < c → 0 ≤ M 285 i ∧ M 285 i ≤ 4) (hQ : Q (fst1 (fun i => decide (¬ M 284 (29 + (M 285 i)).toNat = M 286 i)) c 0) 303 (PP w) M) : OkI yX10_judge cX10_judge 2 0 0 0 (some .int) [vR 279] 303 (PP w) M Q := by
  refine OkI.of (by decide +kernel) (by decide +kernel) (Nat.le_of_ble_eq_true rfl) ?_
  refine go_eq (lv' := [(0, vR 279)]) rfl rfl rfl rfl rfl ?_
  refine go_iconst dX10_judge_0 (by decide) ?_
  refine go_istore_n (lv' := [(1, vI 0), (0, vR 279)]) dX10_judge_1 rfl (by decide) rfl ?_
  exact lp_X10_judge hc h20 hb (c + 1) 0 (by omega) (by omega) hQ

