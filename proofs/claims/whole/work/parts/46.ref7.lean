/-! ===== the reference: laws, rows, guesses ===== -/
theorem and_pow_ne {x b : Nat} : ¬ x &&& 2 ^ b = 0 ↔ x.testBit b = true := by
  constructor
  · intro h
    cases hx : x.testBit b with
    | true => rfl
    | false =>
      refine absurd (Nat.eq_of_testBit_eq (fun i => ?_)) h
      rw [Nat.testBit_and, Nat.testBit_two_pow, Nat.zero_testBit]
      by_cases e : b = i
      · rw [← e, hx]; rfl
      · rw [decide_eq_false e, Bool.and_false]
  · intro h e
    have q : (x &&& 2 ^ b).testBit b = (0 : Nat).testBit b := by rw [e]
    rw [Nat.testBit_and, Nat.testBit_two_pow, Nat.zero_testBit, h, decide_eq_true rfl] at q
    cases q
theorem orTo_bit {g : Nat → Nat} {b : Nat} : ∀ n, (orTo g n).testBit b = true ↔ ∃ i, i < n ∧ (g i).testBit b = true
  | 0 => by
    show (0 : Nat).testBit b = true ↔ _
    rw [Nat.zero_testBit]
    constructor
    · intro h; cases h
    · rintro ⟨i, hi, -⟩; omega
  | n + 1 => by
    rw [orTo_s, Nat.testBit_or, Bool.or_eq_true, orTo_bit n]
    constructor
    · rintro (⟨i, hi, h⟩ | h)
      · exact ⟨i, by omega, h⟩
      · exact ⟨n, by omega, h⟩
    · rintro ⟨i, hi, h⟩
      by_cases e : i = n
      · subst e; exact Or.inr h
      · exact Or.inl ⟨i, by omega, h⟩
theorem lawG_bit {c : Nat → Int} {k b : Nat} : (lawG c k).testBit b = true ↔ 0 < k ∧ (5 * c (k - 1) + c k).toNat = b := by
  unfold lawG
  by_cases h : k = 0
  · rw [if_pos h, Nat.zero_testBit]
    constructor
    · intro q; cases q
    · rintro ⟨q, -⟩; omega
  · rw [if_neg h, Nat.testBit_two_pow]
    constructor
    · intro q; exact ⟨by omega, of_decide_eq_true q⟩
    · rintro ⟨-, q⟩; exact decide_eq_true q
/-- that a pair stands in some type is its bit in the law of the types -/
theorem law_pair {lt : Nat → Nat} {K : Nat → Nat → Int} {T : Nat} {u : Nat} {v : Int} (hu : u < 5) (hv : 0 ≤ v ∧ v ≤ 4) (hK : ∀ t, t < T → ∀ k, k < lt t → 0 ≤ K t k ∧ K t k ≤ 4) : ¬ orTo (fun t => orTo (lawG (fun k => K t k)) (max (lt t) 1)) T &&& 2 ^ (5 * (u : Int) + v).toNat = 0 ↔ ∃ t k, t < T ∧ 1 ≤ k ∧ k < lt t ∧ K t (k - 1) = (u : Int) ∧ K t k = v := by
  rw [and_pow_ne, orTo_bit]
  constructor
  · rintro ⟨t, ht, h⟩
    rw [orTo_bit] at h
    obtain ⟨k, hk, h⟩ := h
    rw [lawG_bit] at h
    have h1 := hK t ht (k - 1) (by omega)
    have h2 := hK t ht k (by omega)
    exact ⟨t, k, ht, by omega, by omega, by omega, by omega⟩
  · rintro ⟨t, k, ht, h1, h2, h3, h4⟩
    refine ⟨t, ht, ?_⟩
    rw [orTo_bit]
    refine ⟨k, by omega, ?_⟩
    rw [lawG_bit]
    exact ⟨by omega, by rw [h3, h4]⟩
set_option maxHeartbeats 4000000 in
set_option maxRecDepth 100000 in
theorem lp_X10_isPair1 {w T u : Nat} {v : Int} {lt : Nat → Nat} {M : inm} {t : Nat} {Q : Int → Nat → rfm → inm → Prop} (hT : Tys10 M T lt) (ht : t < T) (hc : ∀ k, Go S0 yX10_isPair cX10_isPair 6 0 0 0 (some .boolean) 81 [(5, vI ((k : Nat) : Int)), (3, vI 1), (4, vI ((t : Nat) : Int)), (0, vR 279), (1, vI ((u : Nat) : Int)), (2, vI v)] [] 303 (PP w) M (fun v n P M => ∃ z, v = some (vI z) ∧ Q z n P M)) : ∀ d k, lt t < k + d → 1 ≤ k → Go S0 yX10_isPair cX10_isPair 6 0 0 0 (some .boolean) 17 [(5, vI ((k : Nat) : Int)), (3, vI 1), (4, vI ((t : Nat) : Int)), (0, vR 279), (1, vI ((u : Nat) : Int)), (2, vI v)] [] 303 (PP w) M (fun v n P M => ∃ z, v = some (vI z) ∧ Q z n P M) := by
  have hT6 := hT.2.1
  have hl8 := (hT.2.2.1 t ht).2
  intro d
  induction d with
  | zero =>
    intro k h1 h2
    refine go_iload 0 dX10_isPair_17 rfl ?_
    refine go_aload_n 3 dX10_isPair_19 rfl rfl ?_
    refine go_getR (r := 282) dX10_isPair_20 lk10_16.get kd_279 (by omega) rfl (pp_279_6 w) ?_
    refine go_iload 2 dX10_isPair_23 rfl ?_
    refine gx_iaload (v := ((lt t : Nat) : Int)) t dX10_isPair_25 kd_282 (by omega) ln_282 rfl (by omega) ((hT.2.2.1 t ht).1) ?_
    refine go_icmp_ge (tgt := 81) dX10_isPair_26 rfl (fun c1 => ?_) (fun c1 => ?_)
    · refine go_lv [0, 1, 2, 3, 4, 5] rfl ?_
      exact hc k
    · exact absurd c1 (by omega)
  | succ d ih =>
    intro k h1 h2
    refine go_iload 0 dX10_isPair_17 rfl ?_
    refine go_aload_n 3 dX10_isPair_19 rfl rfl ?_
    refine go_getR (r := 282) dX10_isPair_20 lk10_16.get kd_279 (by omega) rfl (pp_279_6 w) ?_
    refine go_iload 2 dX10_isPair_23 rfl ?_
    refine gx_iaload (v := ((lt t : Nat) : Int)) t dX10_isPair_25 kd_282 (by omega) ln_282 rfl (by omega) ((hT.2.2.1 t ht).1) ?_
    refine go_icmp_ge (tgt := 81) dX10_isPair_26 rfl (fun c1 => ?_) (fun c1 => ?_)
    · refine go_lv [0, 1, 2, 3, 4, 5] rfl ?_
      exact hc k
    · refine go_iload_n 1 dX10_isPair_29 rfl rfl ?_
      refine go_if_ne (tgt := 69) dX10_isPair_30 rfl (fun c2 => ?_) (fun c2 => ?_)
      · refine go_iconst dX10_isPair_69 (by decide) ?_
        refine go_goto (tgt := 74) dX10_isPair_70 rfl ?_
        refine go_istore_n (lv' := [(3, vI 1), (5, vI ((k : Nat) : Int)), (4, vI ((t : Nat) : Int)), (0, vR 279), (1, vI ((u : Nat) : Int)), (2, vI v)]) dX10_isPair_74 rfl (by decide) rfl ?_
        refine gx_iinc (v := ((k + 1 : Nat) : Int)) (lv' := [(5, vI ((k + 1 : Nat) : Int)), (3, vI 1), (4, vI ((t : Nat) : Int)), (0, vR 279), (1, vI ((u : Nat) : Int)), (2, vI v)]) 1 dX10_isPair_75 rfl (by omega) ⟨by omega, by omega⟩ (by decide) rfl ?_
        refine go_goto (tgt := 17) dX10_isPair_78 rfl ?_
        refine go_lv [0, 1, 2, 3, 4, 5] rfl ?_
        exact ih (k + 1) (by omega) (by omega)
      · exact absurd c2 (by decide)

set_option maxHeartbeats 4000000 in
set_option maxRecDepth 100000 in
theorem lp_X10_isPair0 {w T u : Nat} {v : Int} {lt : Nat → Nat} {M : inm} {t : Nat} {Q : Int → Nat → rfm → inm → Prop} (hT : Tys10 M T lt) (ht : t < T) (hc : ∀ k, (∀ j, 1 ≤ j → j < lt t → ¬ (M 283 (8 * t + j - 1) = (u : Int) ∧ M 283 (8 * t + j) = v)) → Go S0 yX10_isPair cX10_isPair 6 0 0 0 (some .boolean) 81 [(5, vI ((k : Nat) : Int)), (3, vI 0), (4, vI ((t : Nat) : Int)), (0, vR 279), (1, vI ((u : Nat) : Int)), (2, vI v)] [] 303 (PP w) M (fun v n P M => ∃ z, v = some (vI z) ∧ Q z n P M)) (hc1 : (∃ k, 1 ≤ k ∧ k < lt t ∧ M 283 (8 * t + k - 1) = (u : Int) ∧ M 283 (8 * t + k) = v) → ∀ k, Go S0 yX10_isPair cX10_isPair 6 0 0 0 (some .boolean) 81 [(5, vI ((k : Nat) : Int)), (3, vI 1), (4, vI ((t : Nat) : Int)), (0, vR 279), (1, vI ((u : Nat) : Int)), (2, vI v)] [] 303 (PP w) M (fun v n P M => ∃ z, v = some (vI z) ∧ Q z n P M)) : ∀ d k, lt t < k + d → 1 ≤ k → (∀ j, 1 ≤ j → j < k → ¬ (M 283 (8 * t + j - 1) = (u : Int) ∧ M 283 (8 * t + j) = v)) → Go S0 yX10_isPair cX10_isPair 6 0 0 0 (some .boolean) 17 [(5, vI ((k : Nat) : Int)), (3, vI 0), (4, vI ((t : Nat) : Int)), (0, vR 279), (1, vI ((u : Nat) : Int)), (2, vI v)] [] 303 (PP w) M (fun v n P M => ∃ z, v = some (vI z) ∧ Q z n P M) := by
  have hT6 := hT.2.1
  have hl8 := (hT.2.2.1 t ht).2
  intro d
  induction d with
  | zero =>
    intro k h1 h2 hno
    refine go_iload 0 dX10_isPair_17 rfl ?_
    refine go_aload_n 3 dX10_isPair_19 rfl rfl ?_
    refine go_getR (r := 282) dX10_isPair_20 lk10_16.get kd_279 (by omega) rfl (pp_279_6 w) ?_
    refine go_iload 2 dX10_isPair_23 rfl ?_
    refine gx_iaload (v := ((lt t : Nat) : Int)) t dX10_isPair_25 kd_282 (by omega) ln_282 rfl (by omega) ((hT.2.2.1 t ht).1) ?_
    refine go_icmp_ge (tgt := 81) dX10_isPair_26 rfl (fun c1 => ?_) (fun c1 => ?_)
    · refine go_lv [0, 1, 2, 3, 4, 5] rfl ?_
      exact hc k (fun j a b => hno j a (by omega))
    · exact absurd c1 (by omega)
  | succ d ih =>
    intro k h1 h2 hno
    refine go_iload 0 dX10_isPair_17 rfl ?_
    refine go_aload_n 3 dX10_isPair_19 rfl rfl ?_
    refine go_getR (r := 282) dX10_isPair_20 lk10_16.get kd_279 (by omega) rfl (pp_279_6 w) ?_
    refine go_iload 2 dX10_isPair_23 rfl ?_
    refine gx_iaload (v := ((lt t : Nat) : Int)) t dX10_isPair_25 kd_282 (by omega) ln_282 rfl (by omega) ((hT.2.2.1 t ht).1) ?_
    refine go_icmp_ge (tgt := 81) dX10_isPair_26 rfl (fun c1 => ?_) (fun c1 => ?_)
    · refine go_lv [0, 1, 2, 3, 4, 5] rfl ?_
      exact hc k (fun j a b => hno j a (by omega))
    · refine go_iload_n 1 dX10_isPair_29 rfl rfl ?_
      refine go_if_ne (tgt := 69) dX10_isPair_30 rfl (fun c2 => ?_) (fun c2 => ?_)
      · exact absurd c2 (by decide)
      · refine go_aload_n 3 dX10_isPair_33 rfl rfl ?_
        refine go_getR (r := 283) dX10_isPair_34 lk10_19.get kd_279 (by omega) rfl (pp_279_7 w) ?_
        refine go_bipush dX10_isPair_37 (by decide) (by decide) ?_
        refine go_iload 2 dX10_isPair_39 rfl ?_
        refine gx_imul (v := ((8 * t : Nat) : Int)) dX10_isPair_41 (by omega) ⟨by omega, by omega⟩ ?_
        refine go_iload 0 dX10_isPair_42 rfl ?_
        refine gx_iadd (v := (((8 * t) + k : Nat) : Int)) dX10_isPair_44 (by omega) ⟨by omega, by omega⟩ ?_
        refine go_iconst dX10_isPair_45 (by decide) ?_
        refine gx_isub (v := ((8 * t + k - 1 : Nat) : Int)) dX10_isPair_46 (by omega) ⟨by omega, by omega⟩ ?_
        refine gx_iaload (v := (M 283 (8 * t + k - 1))) (8 * t + k - 1) dX10_isPair_47 kd_283 (by omega) ln_283 rfl (by omega) rfl ?_
        refine go_iload_n 4 dX10_isPair_48 rfl rfl ?_
        refine go_icmp_ne (tgt := 73) dX10_isPair_49 rfl (fun c3 => ?_) (fun c3 => ?_)
        · refine go_iconst dX10_isPair_73 (by decide) ?_
          refine go_istore_n (lv' := [(3, vI 0), (5, vI ((k : Nat) : Int)), (4, vI ((t : Nat) : Int)), (0, vR 279), (1, vI ((u : Nat) : Int)), (2, vI v)]) dX10_isPair_74 rfl (by decide) rfl ?_
          refine gx_iinc (v := ((k + 1 : Nat) : Int)) (lv' := [(5, vI ((k + 1 : Nat) : Int)), (3, vI 0), (4, vI ((t : Nat) : Int)), (0, vR 279), (1, vI ((u : Nat) : Int)), (2, vI v)]) 1 dX10_isPair_75 rfl (by omega) ⟨by omega, by omega⟩ (by decide) rfl ?_
          refine go_goto (tgt := 17) dX10_isPair_78 rfl ?_
          refine go_lv [0, 1, 2, 3, 4, 5] rfl ?_
          exact ih (k + 1) (by omega) (by omega) (fun j a b => by by_cases e : j = k; (subst e; omega); exact hno j a (by omega))
        · refine go_aload_n 3 dX10_isPair_52 rfl rfl ?_
          refine go_getR (r := 283) dX10_isPair_53 lk10_19.get kd_279 (by omega) rfl (pp_279_7 w) ?_
          refine go_bipush dX10_isPair_56 (by decide) (by decide) ?_
          refine go_iload 2 dX10_isPair_58 rfl ?_
          refine gx_imul (v := ((8 * t : Nat) : Int)) dX10_isPair_60 (by omega) ⟨by omega, by omega⟩ ?_
          refine go_iload 0 dX10_isPair_61 rfl ?_
          refine gx_iadd (v := (((8 * t) + k : Nat) : Int)) dX10_isPair_63 (by omega) ⟨by omega, by omega⟩ ?_
          refine gx_iaload (v := (M 283 ((8 * t) + k))) ((8 * t) + k) dX10_isPair_64 kd_283 (by omega) ln_283 rfl (by omega) rfl ?_
          refine go_iload_n 5 dX10_isPair_65 rfl rfl ?_
          refine go_icmp_ne (tgt := 73) dX10_isPair_66 rfl (fun c4 => ?_) (fun c4 => ?_)
          · refine go_iconst dX10_isPair_73 (by decide) ?_
            refine go_istore_n (lv' := [(3, vI 0), (5, vI ((k : Nat) : Int)), (4, vI ((t : Nat) : Int)), (0, vR 279), (1, vI ((u : Nat) : Int)), (2, vI v)]) dX10_isPair_74 rfl (by decide) rfl ?_
            refine gx_iinc (v := ((k + 1 : Nat) : Int)) (lv' := [(5, vI ((k + 1 : Nat) : Int)), (3, vI 0), (4, vI ((t : Nat) : Int)), (0, vR 279), (1, vI ((u : Nat) : Int)), (2, vI v)]) 1 dX10_isPair_75 rfl (by omega) ⟨by omega, by omega⟩ (by decide) rfl ?_
            refine go_goto (tgt := 17) dX10_isPair_78 rfl ?_
            refine go_lv [0, 1, 2, 3, 4, 5] rfl ?_
            exact ih (k + 1) (by omega) (by omega) (fun j a b => by by_cases e : j = k; (subst e; omega); exact hno j a (by omega))
          · refine go_iconst dX10_isPair_69 (by decide) ?_
            refine go_goto (tgt := 74) dX10_isPair_70 rfl ?_
            refine go_istore_n (lv' := [(3, vI 1), (5, vI ((k : Nat) : Int)), (4, vI ((t : Nat) : Int)), (0, vR 279), (1, vI ((u : Nat) : Int)), (2, vI v)]) dX10_isPair_74 rfl (by decide) rfl ?_
            refine gx_iinc (v := ((k + 1 : Nat) : Int)) (lv' := [(5, vI ((k + 1 : Nat) : Int)), (3, vI 1), (4, vI ((t : Nat) : Int)), (0, vR 279), (1, vI ((u : Nat) : Int)), (2, vI v)]) 1 dX10_isPair_75 rfl (by omega) ⟨by omega, by omega⟩ (by decide) rfl ?_
            refine go_goto (tgt := 17) dX10_isPair_78 rfl ?_
            refine go_lv [0, 1, 2, 3, 4, 5] rfl ?_
            exact lp_X10_isPair1 hT ht (hc1 ⟨k, h2, by omega, by omega, by omega⟩) (lt t + 1) (k + 1) (by omega) (by omega)

set_option maxHeartbeats 4000000 in
set_option maxRecDepth 100000 in
theorem lp_X10_isPairA {w T u : Nat} {v : Int} {lt : Nat → Nat} {M : inm} {Q : Int → Nat → rfm → inm → Prop} (hT : Tys10 M T lt) (g1 : (∃ t k, t < T ∧ 1 ≤ k ∧ k < lt t ∧ M 283 (8 * t + k - 1) = (u : Int) ∧ M 283 (8 * t + k) = v) → Q 1 303 (PP w) M) (g0 : ¬ (∃ t k, t < T ∧ 1 ≤ k ∧ k < lt t ∧ M 283 (8 * t + k - 1) = (u : Int) ∧ M 283 (8 * t + k) = v) → Q 0 303 (PP w) M) (hw : ∃ t k, t < T ∧ 1 ≤ k ∧ k < lt t ∧ M 283 (8 * t + k - 1) = (u : Int) ∧ M 283 (8 * t + k) = v) : ∀ d t, T < t + d → t ≤ T → Go S0 yX10_isPair cX10_isPair 6 0 0 0 (some .boolean) 5 [(3, vI 1), (4, vI ((t : Nat) : Int)), (0, vR 279), (1, vI ((u : Nat) : Int)), (2, vI v)] [] 303 (PP w) M (fun v n P M => ∃ z, v = some (vI z) ∧ Q z n P M) := by
  have hT6 := hT.2.1
  intro d
  induction d with
  | zero => intro t h1 h2; exfalso; omega
  | succ d ih =>
    intro t h1 h2
    refine go_iload 1 dX10_isPair_5 rfl ?_
    refine go_aload_n 2 dX10_isPair_7 rfl rfl ?_
    refine gx_getI (v := ((T : Nat) : Int)) dX10_isPair_8 lk10_164.get kd_279 (by omega) rfl hT.1 ?_
    refine go_icmp_ge (tgt := 87) dX10_isPair_11 rfl (fun c1 => ?_) (fun c1 => ?_)
    · refine go_iload_n 0 dX10_isPair_87 rfl rfl ?_
      refine go_iret dX10_isPair_88 rfl rfl ⟨_, rfl, ?_⟩
      exact g1 hw
    · refine go_iconst dX10_isPair_14 (by decide) ?_
      refine go_istore (lv' := [(5, vI 1), (3, vI 1), (4, vI ((t : Nat) : Int)), (0, vR 279), (1, vI ((u : Nat) : Int)), (2, vI v)]) dX10_isPair_15 (by decide) rfl ?_
      refine go_lv [0, 1, 2, 3, 4, 5] rfl ?_
      refine lp_X10_isPair1 hT (by omega) (fun k => ?_) (lt t + 1) 1 (by omega) (by omega)
      refine gx_iinc (v := ((t + 1 : Nat) : Int)) (lv' := [(4, vI ((t + 1 : Nat) : Int)), (5, vI ((k : Nat) : Int)), (3, vI 1), (0, vR 279), (1, vI ((u : Nat) : Int)), (2, vI v)]) 2 dX10_isPair_81 rfl (by omega) ⟨by omega, by omega⟩ (by decide) rfl ?_
      refine go_goto (tgt := 5) dX10_isPair_84 rfl ?_
      refine go_lv [2, 0, 3, 4, 5] rfl ?_
      exact ih (t + 1) (by omega) (by omega)

set_option maxHeartbeats 4000000 in
set_option maxRecDepth 100000 in
theorem lp_X10_isPairB {w T u : Nat} {v : Int} {lt : Nat → Nat} {M : inm} {Q : Int → Nat → rfm → inm → Prop} (hT : Tys10 M T lt) (g1 : (∃ t k, t < T ∧ 1 ≤ k ∧ k < lt t ∧ M 283 (8 * t + k - 1) = (u : Int) ∧ M 283 (8 * t + k) = v) → Q 1 303 (PP w) M) (g0 : ¬ (∃ t k, t < T ∧ 1 ≤ k ∧ k < lt t ∧ M 283 (8 * t + k - 1) = (u : Int) ∧ M 283 (8 * t + k) = v) → Q 0 303 (PP w) M) : ∀ d t, T < t + d → t ≤ T → (∀ t0 k, t0 < t → 1 ≤ k → k < lt t0 → ¬ (M 283 (8 * t0 + k - 1) = (u : Int) ∧ M 283 (8 * t0 + k) = v)) → Go S0 yX10_isPair cX10_isPair 6 0 0 0 (some .boolean) 5 [(3, vI 0), (4, vI ((t : Nat) : Int)), (0, vR 279), (1, vI ((u : Nat) : Int)), (2, vI v)] [] 303 (PP w) M (fun v n P M => ∃ z, v = some (vI z) ∧ Q z n P M) := by
  have hT6 := hT.2.1
  intro d
  induction d with
  | zero => intro t h1 h2; exfalso; omega
  | succ d ih =>
    intro t h1 h2 hn
    refine go_iload 1 dX10_isPair_5 rfl ?_
    refine go_aload_n 2 dX10_isPair_7 rfl rfl ?_
    refine gx_getI (v := ((T : Nat) : Int)) dX10_isPair_8 lk10_164.get kd_279 (by omega) rfl hT.1 ?_
    refine go_icmp_ge (tgt := 87) dX10_isPair_11 rfl (fun c1 => ?_) (fun c1 => ?_)
    · refine go_iload_n 0 dX10_isPair_87 rfl rfl ?_
      refine go_iret dX10_isPair_88 rfl rfl ⟨_, rfl, ?_⟩
      exact g0 (fun ⟨t0, k, a, b, c, e, f⟩ => hn t0 k (by omega) b c ⟨e, f⟩)
    · refine go_iconst dX10_isPair_14 (by decide) ?_
      refine go_istore (lv' := [(5, vI 1), (3, vI 0), (4, vI ((t : Nat) : Int)), (0, vR 279), (1, vI ((u : Nat) : Int)), (2, vI v)]) dX10_isPair_15 (by decide) rfl ?_
      refine go_lv [0, 1, 2, 3, 4, 5] rfl ?_
      refine lp_X10_isPair0 hT (by omega) (fun k hno => ?_) (fun ⟨k0, hk0⟩ k => ?_) (lt t + 1) 1 (by omega) (by omega) (fun j a b => by omega)
      · refine gx_iinc (v := ((t + 1 : Nat) : Int)) (lv' := [(4, vI ((t + 1 : Nat) : Int)), (5, vI ((k : Nat) : Int)), (3, vI 0), (0, vR 279), (1, vI ((u : Nat) : Int)), (2, vI v)]) 2 dX10_isPair_81 rfl (by omega) ⟨by omega, by omega⟩ (by decide) rfl ?_
        refine go_goto (tgt := 5) dX10_isPair_84 rfl ?_
        refine go_lv [2, 0, 3, 4, 5] rfl ?_
        exact ih (t + 1) (by omega) (by omega) (fun t0 k1 a b c => by by_cases e : t0 = t; (subst e; exact hno k1 b c); exact hn t0 k1 (by omega) b c)
      · refine gx_iinc (v := ((t + 1 : Nat) : Int)) (lv' := [(4, vI ((t + 1 : Nat) : Int)), (5, vI ((k : Nat) : Int)), (3, vI 1), (0, vR 279), (1, vI ((u : Nat) : Int)), (2, vI v)]) 2 dX10_isPair_81 rfl (by omega) ⟨by omega, by omega⟩ (by decide) rfl ?_
        refine go_goto (tgt := 5) dX10_isPair_84 rfl ?_
        refine go_lv [2, 0, 3, 4, 5] rfl ?_
        exact lp_X10_isPairA hT g1 g0 ⟨t, k0, by omega, hk0.1, hk0.2.1, hk0.2.2.1, hk0.2.2.2⟩ (T + 1) (t + 1) (by omega) (by omega)

set_option maxHeartbeats 4000000 in
set_option maxRecDepth 100000 in
theorem ok_X10_isPair {w T u : Nat} {v : Int} {lt : Nat → Nat} {M : inm} {Q : Int → Nat → rfm → inm → Prop} (hT : Tys10 M T lt) (g1 : (∃ t k, t < T ∧ 1 ≤ k ∧ k < lt t ∧ M 283 (8 * t + k - 1) = (u : Int) ∧ M 283 (8 * t + k) = v) → Q 1 303 (PP w) M) (g0 : ¬ (∃ t k, t < T ∧ 1 ≤ k ∧ k < lt t ∧ M 283 (8 * t + k - 1) = (u : Int) ∧ M 283 (8 * t + k) = v) → Q 0 303 (PP w) M) : OkI yX10_isPair cX10_isPair 6 0 0 0 (some .boolean) [vR 279, vI ((u : Nat) : Int), vI v] 303 (PP w) M Q := by
  refine OkI.of (by decide +kernel) (by decide +kernel) (Nat.le_of_ble_eq_true rfl) ?_
  refine go_eq (lv' := [(0, vR 279), (1, vI ((u : Nat) : Int)), (2, vI v)]) rfl rfl rfl rfl rfl ?_
  refine go_iconst dX10_isPair_0 (by decide) ?_
  refine go_istore_n (lv' := [(3, vI 0), (0, vR 279), (1, vI ((u : Nat) : Int)), (2, vI v)]) dX10_isPair_1 rfl (by decide) rfl ?_
  refine go_iconst dX10_isPair_2 (by decide) ?_
  refine go_istore (lv' := [(4, vI 0), (3, vI 0), (0, vR 279), (1, vI ((u : Nat) : Int)), (2, vI v)]) dX10_isPair_3 (by decide) rfl ?_
  refine go_lv [1, 0, 2, 3, 4] rfl ?_
  exact lp_X10_isPairB hT g1 g0 (T + 1) 0 (by omega) (by omega) (fun t0 k a => by omega)

theorem pair_sh {M : inm} {T : Nat} {lt : Nat → Nat} {u v : Int} (h : ∃ t k, t < T ∧ 1 ≤ k ∧ k < lt t ∧ M 283 (8 * t + k - 1) = u ∧ M 283 (8 * t + k) = v) : ∃ t k, t < T ∧ 1 ≤ k ∧ k < lt t ∧ M 283 (8 * t + (k - 1)) = u ∧ M 283 (8 * t + k) = v := by
  obtain ⟨t, k, a, b, c, e, f⟩ := h
  exact ⟨t, k, a, b, c, by rw [show 8 * t + (k - 1) = 8 * t + k - 1 by omega]; exact e, f⟩
theorem pair_hs {M : inm} {T : Nat} {lt : Nat → Nat} {u v : Int} (h : ∃ t k, t < T ∧ 1 ≤ k ∧ k < lt t ∧ M 283 (8 * t + (k - 1)) = u ∧ M 283 (8 * t + k) = v) : ∃ t k, t < T ∧ 1 ≤ k ∧ k < lt t ∧ M 283 (8 * t + k - 1) = u ∧ M 283 (8 * t + k) = v := by
  obtain ⟨t, k, a, b, c, e, f⟩ := h
  exact ⟨t, k, a, b, c, by rw [show 8 * t + k - 1 = 8 * t + (k - 1) by omega]; exact e, f⟩
theorem underG_lt {u l : Nat} {c : Nat → Int} {n : Nat} (hn : n ≤ 12) : orTo (underG u l c) n < 2 ^ 12 := by
  refine orTo_lt (b := 12) n (fun j hj => ?_)
  unfold underG
  split
  · exact Nat.two_pow_pos 12
  · exact Nat.pow_lt_pow_right (by decide) (by omega)
set_option maxHeartbeats 4000000 in
set_option maxRecDepth 100000 in
theorem lp_X10_allows {w L T u : Nat} {lt : Nat → Nat} {M : inm} {Q : Int → Nat → rfm → inm → Prop} (hL : Lay10 M L) (hT : Tys10 M T lt) (hu : u < 5) (hQ : Q ((orTo (underG u (orTo (fun t => orTo (lawG (fun k => M 283 (8 * t + k))) (max (lt t) 1)) T) (fun j => M 284 (j + 1))) L : Nat) : Int) 303 (PP w) M) : ∀ (d k : Nat), L < k + d → k ≤ L → Go S0 yX10_allows cX10_allows 4 1 0 0 (some .int) 19 [(3, vI ((k : Nat) : Int)), (2, vI ((orTo (underG u (orTo (fun t => orTo (lawG (fun k => M 283 (8 * t + k))) (max (lt t) 1)) T) (fun j => M 284 (j + 1))) k : Nat) : Int)), (0, vR 279), (1, vI ((u : Nat) : Int))] [] 303 (PP w) M (fun v n P M => ∃ z, v = some (vI z) ∧ Q z n P M) := by
  have hL12 := hL.2.1
  intro d
  induction d with
  | zero => intro k h1 h2; exfalso; omega
  | succ d ih =>
    intro k h1 h2
    have hol := underG_lt (u := u) (l := (orTo (fun t => orTo (lawG (fun k => M 283 (8 * t + k))) (max (lt t) 1)) T)) (c := (fun j => M 284 (j + 1))) (n := k) (by omega)
    refine go_iload_n 0 dX10_allows_19 rfl rfl ?_
    refine go_aload_n 2 dX10_allows_20 rfl rfl ?_
    refine go_getR (r := 284) dX10_allows_21 lk10_22.get kd_279 (by omega) rfl (pp_279_8 w) ?_
    refine go_iconst dX10_allows_24 (by decide) ?_
    refine gx_iaload (v := ((L : Nat) : Int)) 0 dX10_allows_25 kd_284 (by omega) ln_284 (by omega) (by omega) hL.1 ?_
    refine go_icmp_ge (tgt := 61) dX10_allows_26 rfl (fun c1 => ?_) (fun c1 => ?_)
    · refine go_iload_n 1 dX10_allows_61 rfl rfl ?_
      refine go_iret dX10_allows_62 rfl rfl ⟨_, rfl, ?_⟩
      rw [show k = L by omega]
      exact hQ
    · refine go_iload_n 1 dX10_allows_29 rfl rfl ?_
      refine go_aload_n 2 dX10_allows_30 rfl rfl ?_
      refine go_iload_n 3 dX10_allows_31 rfl rfl ?_
      refine go_aload_n 2 dX10_allows_32 rfl rfl ?_
      refine go_getR (r := 284) dX10_allows_33 lk10_22.get kd_279 (by omega) rfl (pp_279_8 w) ?_
      refine go_iconst dX10_allows_36 (by decide) ?_
      refine go_iload_n 0 dX10_allows_37 rfl rfl ?_
      refine gx_iadd (v := ((k + 1 : Nat) : Int)) dX10_allows_38 (by omega) ⟨by omega, by omega⟩ ?_
      refine gx_iaload (v := (M 284 (k + 1))) (k + 1) dX10_allows_39 kd_284 (by omega) ln_284 rfl (by omega) rfl ?_
      refine go_callVI (av := [vI ((u : Nat) : Int), vI (M 284 (k + 1))]) (st := [vI ((orTo (underG u (orTo (fun t => orTo (lawG (fun k => M 283 (8 * t + k))) (max (lt t) 1)) T) (fun j => M 284 (j + 1))) k : Nat) : Int)]) (a := 279) (mc2 := 0) (ms2 := 0) dX10_allows_40 cw10_291 (by decide) rfl rfl (Nat.le_of_ble_eq_true rfl) rfl rfl kd_279 ⟨_, _, rfl⟩ (by decide) (by omega) (ok_X10_isPair (u := u) (lt := lt) hT (fun b2 => ?_) (fun b3 => ?_))
      · have hbit := (law_pair (lt := lt) (K := (fun t k => M 283 (8 * t + k))) (T := T) hu (hL.2.2.2 k (by omega)) hT.2.2.2).mpr (pair_sh b2)
        refine go_if_eq (tgt := 52) dX10_allows_43 rfl (fun c4 => ?_) (fun c4 => ?_)
        · exact absurd c4 (by decide)
        · refine go_iconst dX10_allows_46 (by decide) ?_
          refine go_iload_n 0 dX10_allows_47 rfl rfl ?_
          refine gx_shl k dX10_allows_48 (by omega) (by omega) rfl ?_
          refine go_goto (tgt := 53) dX10_allows_49 rfl ?_
          refine gx_ior (a := orTo (underG u (orTo (fun t => orTo (lawG (fun k => M 283 (8 * t + k))) (max (lt t) 1)) T) (fun j => M 284 (j + 1))) k) (b := (2 ^ k)) dX10_allows_53 (by omega) (by omega) ?_
          refine go_istore_n (lv' := [(2, vI (((orTo (underG u (orTo (fun t => orTo (lawG (fun k => M 283 (8 * t + k))) (max (lt t) 1)) T) (fun j => M 284 (j + 1))) k) ||| (2 ^ k) : Nat) : Int)), (3, vI ((k : Nat) : Int)), (0, vR 279), (1, vI ((u : Nat) : Int))]) dX10_allows_54 rfl (by decide) rfl ?_
          refine gx_iinc (v := ((k + 1 : Nat) : Int)) (lv' := [(3, vI ((k + 1 : Nat) : Int)), (2, vI (((orTo (underG u (orTo (fun t => orTo (lawG (fun k => M 283 (8 * t + k))) (max (lt t) 1)) T) (fun j => M 284 (j + 1))) k) ||| (2 ^ k) : Nat) : Int)), (0, vR 279), (1, vI ((u : Nat) : Int))]) 1 dX10_allows_55 rfl (by omega) ⟨by omega, by omega⟩ (by decide) rfl ?_
          refine go_goto (tgt := 19) dX10_allows_58 rfl ?_
          have e5 : (((orTo (underG u (orTo (fun t => orTo (lawG (fun k => M 283 (8 * t + k))) (max (lt t) 1)) T) (fun j => M 284 (j + 1))) k) ||| (2 ^ k) : Nat) : Int) = ((orTo (underG u (orTo (fun t => orTo (lawG (fun k => M 283 (8 * t + k))) (max (lt t) 1)) T) (fun j => M 284 (j + 1))) (k + 1) : Nat) : Int) := by (rw [orTo_s, underG]; first | (rw [if_neg hbit]; done) | (rw [if_pos hbit]; done))
          rw [e5]
          exact ih (k + 1) (by omega) (by omega)
      · have hbit : (orTo (fun t => orTo (lawG (fun k => M 283 (8 * t + k))) (max (lt t) 1)) T) &&& 2 ^ (5 * (u : Int) + M 284 (k + 1)).toNat = 0 := Classical.byContradiction (fun q => b3 (pair_hs ((law_pair (lt := lt) (K := (fun t k => M 283 (8 * t + k))) (T := T) hu (hL.2.2.2 k (by omega)) hT.2.2.2).mp q)))
        refine go_if_eq (tgt := 52) dX10_allows_43 rfl (fun c6 => ?_) (fun c6 => ?_)
        · refine go_iconst dX10_allows_52 (by decide) ?_
          refine gx_ior (a := orTo (underG u (orTo (fun t => orTo (lawG (fun k => M 283 (8 * t + k))) (max (lt t) 1)) T) (fun j => M 284 (j + 1))) k) (b := 0) dX10_allows_53 (by omega) (by omega) ?_
          refine go_istore_n (lv' := [(2, vI (((orTo (underG u (orTo (fun t => orTo (lawG (fun k => M 283 (8 * t + k))) (max (lt t) 1)) T) (fun j => M 284 (j + 1))) k) ||| 0 : Nat) : Int)), (3, vI ((k : Nat) : Int)), (0, vR 279), (1, vI ((u : Nat) : Int))]) dX10_allows_54 rfl (by decide) rfl ?_
          refine gx_iinc (v := ((k + 1 : Nat) : Int)) (lv' := [(3, vI ((k + 1 : Nat) : Int)), (2, vI (((orTo (underG u (orTo (fun t => orTo (lawG (fun k => M 283 (8 * t + k))) (max (lt t) 1)) T) (fun j => M 284 (j + 1))) k) ||| 0 : Nat) : Int)), (0, vR 279), (1, vI ((u : Nat) : Int))]) 1 dX10_allows_55 rfl (by omega) ⟨by omega, by omega⟩ (by decide) rfl ?_
          refine go_goto (tgt := 19) dX10_allows_58 rfl ?_
          have e7 : (((orTo (underG u (orTo (fun t => orTo (lawG (fun k => M 283 (8 * t + k))) (max (lt t) 1)) T) (fun j => M 284 (j + 1))) k) ||| 0 : Nat) : Int) = ((orTo (underG u (orTo (fun t => orTo (lawG (fun k => M 283 (8 * t + k))) (max (lt t) 1)) T) (fun j => M 284 (j + 1))) (k + 1) : Nat) : Int) := by (rw [orTo_s, underG]; first | (rw [if_neg hbit]; done) | (rw [if_pos hbit]; done))
          rw [e7]
          exact ih (k + 1) (by omega) (by omega)
        · exact absurd c6 (by decide)

set_option maxHeartbeats 4000000 in
set_option maxRecDepth 100000 in
theorem ok_X10_allows_in {w L T u : Nat} {lt : Nat → Nat} {M : inm} {Q : Int → Nat → rfm → inm → Prop} (hL : Lay10 M L) (hT : Tys10 M T lt) (hu : u < 5) (hQ : Q ((orTo (underG u (orTo (fun t => orTo (lawG (fun k => M 283 (8 * t + k))) (max (lt t) 1)) T) (fun j => M 284 (j + 1))) L : Nat) : Int) 303 (PP w) M) : OkI yX10_allows cX10_allows 4 1 0 0 (some .int) [vR 279, vI ((u : Nat) : Int)] 303 (PP w) M Q := by
  refine OkI.of (by decide +kernel) (by decide +kernel) (Nat.le_of_ble_eq_true rfl) ?_
  refine go_eq (lv' := [(0, vR 279), (1, vI ((u : Nat) : Int))]) rfl rfl rfl rfl rfl ?_
  refine go_iload_n 1 dX10_allows_0 rfl rfl ?_
  refine go_i2l dX10_allows_1 ?_
  refine go_lconst (z := 0) dX10_allows_2 (by decide) (by decide) ?_
  refine go_ldc2 dX10_allows_3 jk10_289 (by decide) ?_
  refine go_callSI (av := [vL ((u : Nat) : Int), vL 0, vL 4]) (st := []) (mc2 := 0) (ms2 := 0) dX10_allows_6 cw10_87 (by decide) rfl rfl (Nat.le_of_ble_eq_true rfl) rfl rfl (ok_X10_in (fun _ _ => ?_) (fun h => absurd ⟨by omega, by omega⟩ h))
  refine go_if_ne (tgt := 15) dX10_allows_9 rfl (fun c1 => ?_) (fun c1 => ?_)
  · refine go_iconst dX10_allows_15 (by decide) ?_
    refine go_istore_n (lv' := [(2, vI 0), (0, vR 279), (1, vI ((u : Nat) : Int))]) dX10_allows_16 rfl (by decide) rfl ?_
    refine go_iconst dX10_allows_17 (by decide) ?_
    refine go_istore_n (lv' := [(3, vI 0), (2, vI 0), (0, vR 279), (1, vI ((u : Nat) : Int))]) dX10_allows_18 rfl (by decide) rfl ?_
    exact lp_X10_allows hL hT hu hQ (L + 1) 0 (by omega) (by omega)
  · exact absurd c1 (by decide)

set_option maxHeartbeats 4000000 in
set_option maxRecDepth 100000 in
theorem ok_X10_allows_out {w : Nat} {a : Int} {M : inm} {Q : Int → Nat → rfm → inm → Prop} (hb : ¬ (0 ≤ a ∧ a < 5)) (hQ : Q (-1000000002) 303 (PP w) M) : OkI yX10_allows cX10_allows 4 1 0 0 (some .int) [vR 279, vI a] 303 (PP w) M Q := by
  refine OkI.of (by decide +kernel) (by decide +kernel) (Nat.le_of_ble_eq_true rfl) ?_
  refine go_eq (lv' := [(0, vR 279), (1, vI a)]) rfl rfl rfl rfl rfl ?_
  refine go_iload_n 1 dX10_allows_0 rfl rfl ?_
  refine go_i2l dX10_allows_1 ?_
  refine go_lconst (z := 0) dX10_allows_2 (by decide) (by decide) ?_
  refine go_ldc2 dX10_allows_3 jk10_289 (by decide) ?_
  refine go_callSI (av := [vL a, vL 0, vL 4]) (st := []) (mc2 := 0) (ms2 := 0) dX10_allows_6 cw10_87 (by decide) rfl rfl (Nat.le_of_ble_eq_true rfl) rfl rfl (ok_X10_in (fun a1 a2 => absurd (And.intro a1 a2) (by omega)) (fun _ => ?_))
  refine go_if_ne (tgt := 15) dX10_allows_9 rfl (fun c1 => ?_) (fun c1 => ?_)
  · exact absurd c1 (by decide)
  · refine go_ldc dX10_allows_12 ik10_96 (by decide) ?_
    refine go_iret dX10_allows_14 rfl rfl ⟨_, rfl, ?_⟩
    exact hQ

/-- rows: the start of the one that is going on, the longest's start, its length -/
def rnF (c : Nat → Int) (k : Nat) (f : Int) : Int := if 0 < k ∧ c k = c (k - 1) then f else (k : Int)
def rnS (c : Nat → Int) : Nat → Int × Int × Int
  | 0 => (0, -1, 0)
  | k + 1 => (rnF c k (rnS c k).1, if (rnS c k).2.2 < (k : Int) - rnF c k (rnS c k).1 + 1 then rnF c k (rnS c k).1 else (rnS c k).2.1, if (rnS c k).2.2 < (k : Int) - rnF c k (rnS c k).1 + 1 then (k : Int) - rnF c k (rnS c k).1 + 1 else (rnS c k).2.2)
theorem rn_in {c : Nat → Int} : ∀ k, (0 ≤ (rnS c k).1 ∧ (rnS c k).1 ≤ k) ∧ (-1 ≤ (rnS c k).2.1 ∧ (rnS c k).2.1 ≤ k) ∧ 0 ≤ (rnS c k).2.2 ∧ (rnS c k).2.2 ≤ k
  | 0 => by
    refine ⟨⟨Int.le_refl _, Int.le_refl _⟩, ⟨Int.le_refl _, ?_⟩, Int.le_refl _, Int.le_refl _⟩
    show (-1 : Int) ≤ ((0 : Nat) : Int)
    omega
  | k + 1 => by
    have ih := rn_in (c := c) k
    have hf : 0 ≤ rnF c k (rnS c k).1 ∧ rnF c k (rnS c k).1 ≤ k := by unfold rnF; split <;> omega
    rw [rnS]
    refine ⟨⟨hf.1, by show rnF c k (rnS c k).1 ≤ _; omega⟩, ?_, ?_⟩
    · show -1 ≤ (if _ then _ else _) ∧ (if _ then _ else _) ≤ _
      split <;> omega
    · show (0 : Int) ≤ (if (rnS c k).2.2 < (k : Int) - rnF c k (rnS c k).1 + 1 then _ else _) ∧ (if (rnS c k).2.2 < (k : Int) - rnF c k (rnS c k).1 + 1 then _ else _) ≤ _
      split <;> omega
set_option maxHeartbeats 4000000 in
set_option maxRecDepth 100000 in
theorem lp_X10_run {w L : Nat} {a : Int} {M : inm} {Q : Int → Nat → rfm → inm → Prop} (hL : Lay10 M L) (ha : a = 0 ∨ a = 1) (g0 : a = 0 → Q (rnS (fun j => M 284 (j + 1)) L).2.2 303 (PP w) M) (g1 : a = 1 → Q (rnS (fun j => M 284 (j + 1)) L).2.1 303 (PP w) M) : ∀ (d k : Nat), L < k + d → k ≤ L → Go S0 yX10_run cX10_run 6 1 0 0 (some .int) 23 [(5, vI ((k : Nat) : Int)), (2, vI ((rnS (fun j => M 284 (j + 1)) k).2.1)), (3, vI ((rnS (fun j => M 284 (j + 1)) k).2.2)), (4, vI ((rnS (fun j => M 284 (j + 1)) k).1)), (0, vR 279), (1, vI a)] [] 303 (PP w) M (fun v n P M => ∃ z, v = some (vI z) ∧ Q z n P M) := by
  have hL12 := hL.2.1
  intro d
  induction d with
  | zero => intro k h1 h2; exfalso; omega
  | succ d ih =>
    intro k h1 h2
    have hri := rn_in (c := (fun j => M 284 (j + 1))) k
    refine go_iload 0 dX10_run_23 rfl ?_
    refine go_aload_n 4 dX10_run_25 rfl rfl ?_
    refine go_getR (r := 284) dX10_run_26 lk10_22.get kd_279 (by omega) rfl (pp_279_8 w) ?_
    refine go_iconst dX10_run_29 (by decide) ?_
    refine gx_iaload (v := ((L : Nat) : Int)) 0 dX10_run_30 kd_284 (by omega) ln_284 (by omega) (by omega) hL.1 ?_
    refine go_icmp_ge (tgt := 118) dX10_run_31 rfl (fun c1 => ?_) (fun c1 => ?_)
    · refine go_iload_n 5 dX10_run_118 rfl rfl ?_
      refine go_if_ne (tgt := 126) dX10_run_119 rfl (fun c2 => ?_) (fun c2 => ?_)
      · refine go_iload_n 1 dX10_run_126 rfl rfl ?_
        refine go_iret dX10_run_127 rfl rfl ⟨_, rfl, ?_⟩
        have hk : k = L := by omega
        subst hk
        first | exact g0 (by omega) | exact g1 (by omega)
      · refine go_iload_n 2 dX10_run_122 rfl rfl ?_
        refine go_goto (tgt := 127) dX10_run_123 rfl ?_
        refine go_iret dX10_run_127 rfl rfl ⟨_, rfl, ?_⟩
        have hk : k = L := by omega
        subst hk
        first | exact g0 (by omega) | exact g1 (by omega)
    · refine go_iload 0 dX10_run_34 rfl ?_
      refine go_if_le (tgt := 67) dX10_run_36 rfl (fun c3 => ?_) (fun c3 => ?_)
      · refine go_iload 0 dX10_run_67 rfl ?_
        refine go_istore (lv' := [(4, vI ((k : Nat) : Int)), (5, vI ((k : Nat) : Int)), (2, vI ((rnS (fun j => M 284 (j + 1)) k).2.1)), (3, vI ((rnS (fun j => M 284 (j + 1)) k).2.2)), (0, vR 279), (1, vI a)]) dX10_run_69 (by decide) rfl ?_
        refine go_iload 1 dX10_run_71 rfl ?_
        refine go_iload 0 dX10_run_73 rfl ?_
        refine gx_isub (v := (((k : Nat) : Int) - ((k : Nat) : Int))) dX10_run_75 rfl ⟨by omega, by omega⟩ ?_
        refine go_iconst dX10_run_76 (by decide) ?_
        refine gx_iadd (v := ((((k : Nat) : Int) - ((k : Nat) : Int)) + 1)) dX10_run_77 rfl ⟨by omega, by omega⟩ ?_
        refine go_iload_n 3 dX10_run_78 rfl rfl ?_
        refine go_icmp_le (tgt := 87) dX10_run_79 rfl (fun c4 => ?_) (fun c4 => ?_)
        · refine go_iload_n 2 dX10_run_87 rfl rfl ?_
          refine go_istore_n (lv' := [(2, vI ((rnS (fun j => M 284 (j + 1)) k).2.1)), (4, vI ((k : Nat) : Int)), (5, vI ((k : Nat) : Int)), (3, vI ((rnS (fun j => M 284 (j + 1)) k).2.2)), (0, vR 279), (1, vI a)]) dX10_run_88 rfl (by decide) rfl ?_
          refine go_iload 2 dX10_run_89 rfl ?_
          refine go_iload 1 dX10_run_91 rfl ?_
          refine gx_isub (v := (((k : Nat) : Int) - ((k : Nat) : Int))) dX10_run_93 rfl ⟨by omega, by omega⟩ ?_
          refine go_iconst dX10_run_94 (by decide) ?_
          refine gx_iadd (v := ((((k : Nat) : Int) - ((k : Nat) : Int)) + 1)) dX10_run_95 rfl ⟨by omega, by omega⟩ ?_
          refine go_iload_n 3 dX10_run_96 rfl rfl ?_
          refine go_icmp_le (tgt := 110) dX10_run_97 rfl (fun c5 => ?_) (fun c5 => ?_)
          · refine go_iload_n 3 dX10_run_110 rfl rfl ?_
            refine go_istore_n (lv' := [(3, vI ((rnS (fun j => M 284 (j + 1)) k).2.2)), (2, vI ((rnS (fun j => M 284 (j + 1)) k).2.1)), (4, vI ((k : Nat) : Int)), (5, vI ((k : Nat) : Int)), (0, vR 279), (1, vI a)]) dX10_run_111 rfl (by decide) rfl ?_
            refine gx_iinc (v := ((k + 1 : Nat) : Int)) (lv' := [(5, vI ((k + 1 : Nat) : Int)), (3, vI ((rnS (fun j => M 284 (j + 1)) k).2.2)), (2, vI ((rnS (fun j => M 284 (j + 1)) k).2.1)), (4, vI ((k : Nat) : Int)), (0, vR 279), (1, vI a)]) 3 dX10_run_112 rfl (by omega) ⟨by omega, by omega⟩ (by decide) rfl ?_
            refine go_goto (tgt := 23) dX10_run_115 rfl ?_
            refine go_lv [0, 2, 1, 3, 4, 5] rfl ?_
            have hf : rnF (fun j => M 284 (j + 1)) k (rnS (fun j => M 284 (j + 1)) k).1 = ((k : Nat) : Int) := by
              show (if 0 < k ∧ M 284 (k + 1) = M 284 (k - 1 + 1) then _ else _) = _
              first | exact if_pos (by omega) | exact if_neg (by omega)
            have he : (rnS (fun j => M 284 (j + 1)) (k + 1)) = (((k : Nat) : Int), (rnS (fun j => M 284 (j + 1)) k).2.1, (rnS (fun j => M 284 (j + 1)) k).2.2) := by
              rw [rnS, hf]
              first | (exfalso; omega) | (rw [if_pos (by omega), if_pos (by omega)]; done) | (rw [if_neg (by omega), if_neg (by omega)]; done)
            refine go_eq (lv' := [(5, vI (((k + 1) : Nat) : Int)), (2, vI ((rnS (fun j => M 284 (j + 1)) (k + 1)).2.1)), (3, vI ((rnS (fun j => M 284 (j + 1)) (k + 1)).2.2)), (4, vI ((rnS (fun j => M 284 (j + 1)) (k + 1)).1)), (0, vR 279), (1, vI a)]) (by rw [he]; rfl) rfl rfl rfl rfl ?_
            exact ih (k + 1) (by omega) (by omega)
          · refine go_iload 2 dX10_run_100 rfl ?_
            refine go_iload 1 dX10_run_102 rfl ?_
            refine gx_isub (v := (((k : Nat) : Int) - ((k : Nat) : Int))) dX10_run_104 rfl ⟨by omega, by omega⟩ ?_
            refine go_iconst dX10_run_105 (by decide) ?_
            refine gx_iadd (v := ((((k : Nat) : Int) - ((k : Nat) : Int)) + 1)) dX10_run_106 rfl ⟨by omega, by omega⟩ ?_
            refine go_goto (tgt := 111) dX10_run_107 rfl ?_
            refine go_istore_n (lv' := [(3, vI ((((k : Nat) : Int) - ((k : Nat) : Int)) + 1)), (2, vI ((rnS (fun j => M 284 (j + 1)) k).2.1)), (4, vI ((k : Nat) : Int)), (5, vI ((k : Nat) : Int)), (0, vR 279), (1, vI a)]) dX10_run_111 rfl (by decide) rfl ?_
            refine gx_iinc (v := ((k + 1 : Nat) : Int)) (lv' := [(5, vI ((k + 1 : Nat) : Int)), (3, vI ((((k : Nat) : Int) - ((k : Nat) : Int)) + 1)), (2, vI ((rnS (fun j => M 284 (j + 1)) k).2.1)), (4, vI ((k : Nat) : Int)), (0, vR 279), (1, vI a)]) 3 dX10_run_112 rfl (by omega) ⟨by omega, by omega⟩ (by decide) rfl ?_
            refine go_goto (tgt := 23) dX10_run_115 rfl ?_
            refine go_lv [0, 2, 1, 3, 4, 5] rfl ?_
            have hf : rnF (fun j => M 284 (j + 1)) k (rnS (fun j => M 284 (j + 1)) k).1 = ((k : Nat) : Int) := by
              show (if 0 < k ∧ M 284 (k + 1) = M 284 (k - 1 + 1) then _ else _) = _
              first | exact if_pos (by omega) | exact if_neg (by omega)
            have he : (rnS (fun j => M 284 (j + 1)) (k + 1)) = (((k : Nat) : Int), (rnS (fun j => M 284 (j + 1)) k).2.1, ((((k : Nat) : Int) - ((k : Nat) : Int)) + 1)) := by
              rw [rnS, hf]
              first | (exfalso; omega) | (rw [if_pos (by omega), if_pos (by omega)]; done) | (rw [if_neg (by omega), if_neg (by omega)]; done)
            refine go_eq (lv' := [(5, vI (((k + 1) : Nat) : Int)), (2, vI ((rnS (fun j => M 284 (j + 1)) (k + 1)).2.1)), (3, vI ((rnS (fun j => M 284 (j + 1)) (k + 1)).2.2)), (4, vI ((rnS (fun j => M 284 (j + 1)) (k + 1)).1)), (0, vR 279), (1, vI a)]) (by rw [he]; rfl) rfl rfl rfl rfl ?_
            exact ih (k + 1) (by omega) (by omega)
        · refine go_iload 0 dX10_run_82 rfl ?_
          refine go_goto (tgt := 88) dX10_run_84 rfl ?_
          refine go_istore_n (lv' := [(2, vI ((k : Nat) : Int)), (4, vI ((k : Nat) : Int)), (5, vI ((k : Nat) : Int)), (3, vI ((rnS (fun j => M 284 (j + 1)) k).2.2)), (0, vR 279), (1, vI a)]) dX10_run_88 rfl (by decide) rfl ?_
          refine go_iload 2 dX10_run_89 rfl ?_
          refine go_iload 1 dX10_run_91 rfl ?_
          refine gx_isub (v := (((k : Nat) : Int) - ((k : Nat) : Int))) dX10_run_93 rfl ⟨by omega, by omega⟩ ?_
          refine go_iconst dX10_run_94 (by decide) ?_
          refine gx_iadd (v := ((((k : Nat) : Int) - ((k : Nat) : Int)) + 1)) dX10_run_95 rfl ⟨by omega, by omega⟩ ?_
          refine go_iload_n 3 dX10_run_96 rfl rfl ?_
          refine go_icmp_le (tgt := 110) dX10_run_97 rfl (fun c6 => ?_) (fun c6 => ?_)
          · refine go_iload_n 3 dX10_run_110 rfl rfl ?_
            refine go_istore_n (lv' := [(3, vI ((rnS (fun j => M 284 (j + 1)) k).2.2)), (2, vI ((k : Nat) : Int)), (4, vI ((k : Nat) : Int)), (5, vI ((k : Nat) : Int)), (0, vR 279), (1, vI a)]) dX10_run_111 rfl (by decide) rfl ?_
            refine gx_iinc (v := ((k + 1 : Nat) : Int)) (lv' := [(5, vI ((k + 1 : Nat) : Int)), (3, vI ((rnS (fun j => M 284 (j + 1)) k).2.2)), (2, vI ((k : Nat) : Int)), (4, vI ((k : Nat) : Int)), (0, vR 279), (1, vI a)]) 3 dX10_run_112 rfl (by omega) ⟨by omega, by omega⟩ (by decide) rfl ?_
            refine go_goto (tgt := 23) dX10_run_115 rfl ?_
            refine go_lv [0, 2, 1, 3, 4, 5] rfl ?_
            have hf : rnF (fun j => M 284 (j + 1)) k (rnS (fun j => M 284 (j + 1)) k).1 = ((k : Nat) : Int) := by
              show (if 0 < k ∧ M 284 (k + 1) = M 284 (k - 1 + 1) then _ else _) = _
              first | exact if_pos (by omega) | exact if_neg (by omega)
            have he : (rnS (fun j => M 284 (j + 1)) (k + 1)) = (((k : Nat) : Int), ((k : Nat) : Int), (rnS (fun j => M 284 (j + 1)) k).2.2) := by
              rw [rnS, hf]
              first | (exfalso; omega) | (rw [if_pos (by omega), if_pos (by omega)]; done) | (rw [if_neg (by omega), if_neg (by omega)]; done)
            refine go_eq (lv' := [(5, vI (((k + 1) : Nat) : Int)), (2, vI ((rnS (fun j => M 284 (j + 1)) (k + 1)).2.1)), (3, vI ((rnS (fun j => M 284 (j + 1)) (k + 1)).2.2)), (4, vI ((rnS (fun j => M 284 (j + 1)) (k + 1)).1)), (0, vR 279), (1, vI a)]) (by rw [he]; rfl) rfl rfl rfl rfl ?_
            exact ih (k + 1) (by omega) (by omega)
          · refine go_iload 2 dX10_run_100 rfl ?_
            refine go_iload 1 dX10_run_102 rfl ?_
            refine gx_isub (v := (((k : Nat) : Int) - ((k : Nat) : Int))) dX10_run_104 rfl ⟨by omega, by omega⟩ ?_
            refine go_iconst dX10_run_105 (by decide) ?_
            refine gx_iadd (v := ((((k : Nat) : Int) - ((k : Nat) : Int)) + 1)) dX10_run_106 rfl ⟨by omega, by omega⟩ ?_
            refine go_goto (tgt := 111) dX10_run_107 rfl ?_
            refine go_istore_n (lv' := [(3, vI ((((k : Nat) : Int) - ((k : Nat) : Int)) + 1)), (2, vI ((k : Nat) : Int)), (4, vI ((k : Nat) : Int)), (5, vI ((k : Nat) : Int)), (0, vR 279), (1, vI a)]) dX10_run_111 rfl (by decide) rfl ?_
            refine gx_iinc (v := ((k + 1 : Nat) : Int)) (lv' := [(5, vI ((k + 1 : Nat) : Int)), (3, vI ((((k : Nat) : Int) - ((k : Nat) : Int)) + 1)), (2, vI ((k : Nat) : Int)), (4, vI ((k : Nat) : Int)), (0, vR 279), (1, vI a)]) 3 dX10_run_112 rfl (by omega) ⟨by omega, by omega⟩ (by decide) rfl ?_
            refine go_goto (tgt := 23) dX10_run_115 rfl ?_
            refine go_lv [0, 2, 1, 3, 4, 5] rfl ?_
            have hf : rnF (fun j => M 284 (j + 1)) k (rnS (fun j => M 284 (j + 1)) k).1 = ((k : Nat) : Int) := by
              show (if 0 < k ∧ M 284 (k + 1) = M 284 (k - 1 + 1) then _ else _) = _
              first | exact if_pos (by omega) | exact if_neg (by omega)
            have he : (rnS (fun j => M 284 (j + 1)) (k + 1)) = (((k : Nat) : Int), ((k : Nat) : Int), ((((k : Nat) : Int) - ((k : Nat) : Int)) + 1)) := by
              rw [rnS, hf]
              first | (exfalso; omega) | (rw [if_pos (by omega), if_pos (by omega)]; done) | (rw [if_neg (by omega), if_neg (by omega)]; done)
            refine go_eq (lv' := [(5, vI (((k + 1) : Nat) : Int)), (2, vI ((rnS (fun j => M 284 (j + 1)) (k + 1)).2.1)), (3, vI ((rnS (fun j => M 284 (j + 1)) (k + 1)).2.2)), (4, vI ((rnS (fun j => M 284 (j + 1)) (k + 1)).1)), (0, vR 279), (1, vI a)]) (by rw [he]; rfl) rfl rfl rfl rfl ?_
            exact ih (k + 1) (by omega) (by omega)
      · refine go_aload_n 4 dX10_run_39 rfl rfl ?_
        refine go_getR (r := 284) dX10_run_40 lk10_22.get kd_279 (by omega) rfl (pp_279_8 w) ?_
        refine go_iconst dX10_run_43 (by decide) ?_
        refine go_iload 0 dX10_run_44 rfl ?_
        refine gx_iadd (v := ((k + 1 : Nat) : Int)) dX10_run_46 (by omega) ⟨by omega, by omega⟩ ?_
        refine gx_iaload (v := (M 284 (k + 1))) (k + 1) dX10_run_47 kd_284 (by omega) ln_284 rfl (by omega) rfl ?_
        refine go_aload_n 4 dX10_run_48 rfl rfl ?_
        refine go_getR (r := 284) dX10_run_49 lk10_22.get kd_279 (by omega) rfl (pp_279_8 w) ?_
        refine go_iconst dX10_run_52 (by decide) ?_
        refine go_iload 0 dX10_run_53 rfl ?_
        refine gx_iadd (v := ((k + 1 : Nat) : Int)) dX10_run_55 (by omega) ⟨by omega, by omega⟩ ?_
        refine go_iconst dX10_run_56 (by decide) ?_
        refine gx_isub (v := ((k - 1 + 1 : Nat) : Int)) dX10_run_57 (by omega) ⟨by omega, by omega⟩ ?_
        refine gx_iaload (v := (M 284 (k - 1 + 1))) (k - 1 + 1) dX10_run_58 kd_284 (by omega) ln_284 rfl (by omega) rfl ?_
        refine go_icmp_ne (tgt := 67) dX10_run_59 rfl (fun c7 => ?_) (fun c7 => ?_)
        · refine go_iload 0 dX10_run_67 rfl ?_
          refine go_istore (lv' := [(4, vI ((k : Nat) : Int)), (5, vI ((k : Nat) : Int)), (2, vI ((rnS (fun j => M 284 (j + 1)) k).2.1)), (3, vI ((rnS (fun j => M 284 (j + 1)) k).2.2)), (0, vR 279), (1, vI a)]) dX10_run_69 (by decide) rfl ?_
          refine go_iload 1 dX10_run_71 rfl ?_
          refine go_iload 0 dX10_run_73 rfl ?_
          refine gx_isub (v := (((k : Nat) : Int) - ((k : Nat) : Int))) dX10_run_75 rfl ⟨by omega, by omega⟩ ?_
          refine go_iconst dX10_run_76 (by decide) ?_
          refine gx_iadd (v := ((((k : Nat) : Int) - ((k : Nat) : Int)) + 1)) dX10_run_77 rfl ⟨by omega, by omega⟩ ?_
          refine go_iload_n 3 dX10_run_78 rfl rfl ?_
          refine go_icmp_le (tgt := 87) dX10_run_79 rfl (fun c8 => ?_) (fun c8 => ?_)
          · refine go_iload_n 2 dX10_run_87 rfl rfl ?_
            refine go_istore_n (lv' := [(2, vI ((rnS (fun j => M 284 (j + 1)) k).2.1)), (4, vI ((k : Nat) : Int)), (5, vI ((k : Nat) : Int)), (3, vI ((rnS (fun j => M 284 (j + 1)) k).2.2)), (0, vR 279), (1, vI a)]) dX10_run_88 rfl (by decide) rfl ?_
            refine go_iload 2 dX10_run_89 rfl ?_
            refine go_iload 1 dX10_run_91 rfl ?_
            refine gx_isub (v := (((k : Nat) : Int) - ((k : Nat) : Int))) dX10_run_93 rfl ⟨by omega, by omega⟩ ?_
            refine go_iconst dX10_run_94 (by decide) ?_
            refine gx_iadd (v := ((((k : Nat) : Int) - ((k : Nat) : Int)) + 1)) dX10_run_95 rfl ⟨by omega, by omega⟩ ?_
            refine go_iload_n 3 dX10_run_96 rfl rfl ?_
            refine go_icmp_le (tgt := 110) dX10_run_97 rfl (fun c9 => ?_) (fun c9 => ?_)
            · refine go_iload_n 3 dX10_run_110 rfl rfl ?_
              refine go_istore_n (lv' := [(3, vI ((rnS (fun j => M 284 (j + 1)) k).2.2)), (2, vI ((rnS (fun j => M 284 (j + 1)) k).2.1)), (4, vI ((k : Nat) : Int)), (5, vI ((k : Nat) : Int)), (0, vR 279), (1, vI a)]) dX10_run_111 rfl (by decide) rfl ?_
              refine gx_iinc (v := ((k + 1 : Nat) : Int)) (lv' := [(5, vI ((k + 1 : Nat) : Int)), (3, vI ((rnS (fun j => M 284 (j + 1)) k).2.2)), (2, vI ((rnS (fun j => M 284 (j + 1)) k).2.1)), (4, vI ((k : Nat) : Int)), (0, vR 279), (1, vI a)]) 3 dX10_run_112 rfl (by omega) ⟨by omega, by omega⟩ (by decide) rfl ?_
              refine go_goto (tgt := 23) dX10_run_115 rfl ?_
              refine go_lv [0, 2, 1, 3, 4, 5] rfl ?_
              have hf : rnF (fun j => M 284 (j + 1)) k (rnS (fun j => M 284 (j + 1)) k).1 = ((k : Nat) : Int) := by
                show (if 0 < k ∧ M 284 (k + 1) = M 284 (k - 1 + 1) then _ else _) = _
                first | exact if_pos (by omega) | exact if_neg (by omega)
              have he : (rnS (fun j => M 284 (j + 1)) (k + 1)) = (((k : Nat) : Int), (rnS (fun j => M 284 (j + 1)) k).2.1, (rnS (fun j => M 284 (j + 1)) k).2.2) := by
                rw [rnS, hf]
                first | (exfalso; omega) | (rw [if_pos (by omega), if_pos (by omega)]; done) | (rw [if_neg (by omega), if_neg (by omega)]; done)
              refine go_eq (lv' := [(5, vI (((k + 1) : Nat) : Int)), (2, vI ((rnS (fun j => M 284 (j + 1)) (k + 1)).2.1)), (3, vI ((rnS (fun j => M 284 (j + 1)) (k + 1)).2.2)), (4, vI ((rnS (fun j => M 284 (j + 1)) (k + 1)).1)), (0, vR 279), (1, vI a)]) (by rw [he]; rfl) rfl rfl rfl rfl ?_
              exact ih (k + 1) (by omega) (by omega)
            · refine go_iload 2 dX10_run_100 rfl ?_
              refine go_iload 1 dX10_run_102 rfl ?_
              refine gx_isub (v := (((k : Nat) : Int) - ((k : Nat) : Int))) dX10_run_104 rfl ⟨by omega, by omega⟩ ?_
              refine go_iconst dX10_run_105 (by decide) ?_
              refine gx_iadd (v := ((((k : Nat) : Int) - ((k : Nat) : Int)) + 1)) dX10_run_106 rfl ⟨by omega, by omega⟩ ?_
              refine go_goto (tgt := 111) dX10_run_107 rfl ?_
              refine go_istore_n (lv' := [(3, vI ((((k : Nat) : Int) - ((k : Nat) : Int)) + 1)), (2, vI ((rnS (fun j => M 284 (j + 1)) k).2.1)), (4, vI ((k : Nat) : Int)), (5, vI ((k : Nat) : Int)), (0, vR 279), (1, vI a)]) dX10_run_111 rfl (by decide) rfl ?_
              refine gx_iinc (v := ((k + 1 : Nat) : Int)) (lv' := [(5, vI ((k + 1 : Nat) : Int)), (3, vI ((((k : Nat) : Int) - ((k : Nat) : Int)) + 1)), (2, vI ((rnS (fun j => M 284 (j + 1)) k).2.1)), (4, vI ((k : Nat) : Int)), (0, vR 279), (1, vI a)]) 3 dX10_run_112 rfl (by omega) ⟨by omega, by omega⟩ (by decide) rfl ?_
              refine go_goto (tgt := 23) dX10_run_115 rfl ?_
              refine go_lv [0, 2, 1, 3, 4, 5] rfl ?_
              have hf : rnF (fun j => M 284 (j + 1)) k (rnS (fun j => M 284 (j + 1)) k).1 = ((k : Nat) : Int) := by
                show (if 0 < k ∧ M 284 (k + 1) = M 284 (k - 1 + 1) then _ else _) = _
                first | exact if_pos (by omega) | exact if_neg (by omega)
              have he : (rnS (fun j => M 284 (j + 1)) (k + 1)) = (((k : Nat) : Int), (rnS (fun j => M 284 (j + 1)) k).2.1, ((((k : Nat) : Int) - ((k : Nat) : Int)) + 1)) := by
                rw [rnS, hf]
                first | (exfalso; omega) | (rw [if_pos (by omega), if_pos (by omega)]; done) | (rw [if_neg (by omega), if_neg (by omega)]; done)
              refine go_eq (lv' := [(5, vI (((k + 1) : Nat) : Int)), (2, vI ((rnS (fun j => M 284 (j + 1)) (k + 1)).2.1)), (3, vI ((rnS (fun j => M 284 (j + 1)) (k + 1)).2.2)), (4, vI ((rnS (fun j => M 284 (j + 1)) (k + 1)).1)), (0, vR 279), (1, vI a)]) (by rw [he]; rfl) rfl rfl rfl rfl ?_
              exact ih (k + 1) (by omega) (by omega)
          · refine go_iload 0 dX10_run_82 rfl ?_
            refine go_goto (tgt := 88) dX10_run_84 rfl ?_
            refine go_istore_n (lv' := [(2, vI ((k : Nat) : Int)), (4, vI ((k : Nat) : Int)), (5, vI ((k : Nat) : Int)), (3, vI ((rnS (fun j => M 284 (j + 1)) k).2.2)), (0, vR 279), (1, vI a)]) dX10_run_88 rfl (by decide) rfl ?_
            refine go_iload 2 dX10_run_89 rfl ?_
            refine go_iload 1 dX10_run_91 rfl ?_
            refine gx_isub (v := (((k : Nat) : Int) - ((k : Nat) : Int))) dX10_run_93 rfl ⟨by omega, by omega⟩ ?_
            refine go_iconst dX10_run_94 (by decide) ?_
            refine gx_iadd (v := ((((k : Nat) : Int) - ((k : Nat) : Int)) + 1)) dX10_run_95 rfl ⟨by omega, by omega⟩ ?_
            refine go_iload_n 3 dX10_run_96 rfl rfl ?_
            refine go_icmp_le (tgt := 110) dX10_run_97 rfl (fun c10 => ?_) (fun c10 => ?_)
            · refine go_iload_n 3 dX10_run_110 rfl rfl ?_
              refine go_istore_n (lv' := [(3, vI ((rnS (fun j => M 284 (j + 1)) k).2.2)), (2, vI ((k : Nat) : Int)), (4, vI ((k : Nat) : Int)), (5, vI ((k : Nat) : Int)), (0, vR 279), (1, vI a)]) dX10_run_111 rfl (by decide) rfl ?_
              refine gx_iinc (v := ((k + 1 : Nat) : Int)) (lv' := [(5, vI ((k + 1 : Nat) : Int)), (3, vI ((rnS (fun j => M 284 (j + 1)) k).2.2)), (2, vI ((k : Nat) : Int)), (4, vI ((k : Nat) : Int)), (0, vR 279), (1, vI a)]) 3 dX10_run_112 rfl (by omega) ⟨by omega, by omega⟩ (by decide) rfl ?_
              refine go_goto (tgt := 23) dX10_run_115 rfl ?_
              refine go_lv [0, 2, 1, 3, 4, 5] rfl ?_
              have hf : rnF (fun j => M 284 (j + 1)) k (rnS (fun j => M 284 (j + 1)) k).1 = ((k : Nat) : Int) := by
                show (if 0 < k ∧ M 284 (k + 1) = M 284 (k - 1 + 1) then _ else _) = _
                first | exact if_pos (by omega) | exact if_neg (by omega)
              have he : (rnS (fun j => M 284 (j + 1)) (k + 1)) = (((k : Nat) : Int), ((k : Nat) : Int), (rnS (fun j => M 284 (j + 1)) k).2.2) := by
                rw [rnS, hf]
                first | (exfalso; omega) | (rw [if_pos (by omega), if_pos (by omega)]; done) | (rw [if_neg (by omega), if_neg (by omega)]; done)
              refine go_eq (lv' := [(5, vI (((k + 1) : Nat) : Int)), (2, vI ((rnS (fun j => M 284 (j + 1)) (k + 1)).2.1)), (3, vI ((rnS (fun j => M 284 (j + 1)) (k + 1)).2.2)), (4, vI ((rnS (fun j => M 284 (j + 1)) (k + 1)).1)), (0, vR 279), (1, vI a)]) (by rw [he]; rfl) rfl rfl rfl rfl ?_
              exact ih (k + 1) (by omega) (by omega)
            · refine go_iload 2 dX10_run_100 rfl ?_
              refine go_iload 1 dX10_run_102 rfl ?_
              refine gx_isub (v := (((k : Nat) : Int) - ((k : Nat) : Int))) dX10_run_104 rfl ⟨by omega, by omega⟩ ?_
              refine go_iconst dX10_run_105 (by decide) ?_
              refine gx_iadd (v := ((((k : Nat) : Int) - ((k : Nat) : Int)) + 1)) dX10_run_106 rfl ⟨by omega, by omega⟩ ?_
              refine go_goto (tgt := 111) dX10_run_107 rfl ?_
              refine go_istore_n (lv' := [(3, vI ((((k : Nat) : Int) - ((k : Nat) : Int)) + 1)), (2, vI ((k : Nat) : Int)), (4, vI ((k : Nat) : Int)), (5, vI ((k : Nat) : Int)), (0, vR 279), (1, vI a)]) dX10_run_111 rfl (by decide) rfl ?_
              refine gx_iinc (v := ((k + 1 : Nat) : Int)) (lv' := [(5, vI ((k + 1 : Nat) : Int)), (3, vI ((((k : Nat) : Int) - ((k : Nat) : Int)) + 1)), (2, vI ((k : Nat) : Int)), (4, vI ((k : Nat) : Int)), (0, vR 279), (1, vI a)]) 3 dX10_run_112 rfl (by omega) ⟨by omega, by omega⟩ (by decide) rfl ?_
              refine go_goto (tgt := 23) dX10_run_115 rfl ?_
              refine go_lv [0, 2, 1, 3, 4, 5] rfl ?_
              have hf : rnF (fun j => M 284 (j + 1)) k (rnS (fun j => M 284 (j + 1)) k).1 = ((k : Nat) : Int) := by
                show (if 0 < k ∧ M 284 (k + 1) = M 284 (k - 1 + 1) then _ else _) = _
                first | exact if_pos (by omega) | exact if_neg (by omega)
              have he : (rnS (fun j => M 284 (j + 1)) (k + 1)) = (((k : Nat) : Int), ((k : Nat) : Int), ((((k : Nat) : Int) - ((k : Nat) : Int)) + 1)) := by
                rw [rnS, hf]
                first | (exfalso; omega) | (rw [if_pos (by omega), if_pos (by omega)]; done) | (rw [if_neg (by omega), if_neg (by omega)]; done)
              refine go_eq (lv' := [(5, vI (((k + 1) : Nat) : Int)), (2, vI ((rnS (fun j => M 284 (j + 1)) (k + 1)).2.1)), (3, vI ((rnS (fun j => M 284 (j + 1)) (k + 1)).2.2)), (4, vI ((rnS (fun j => M 284 (j + 1)) (k + 1)).1)), (0, vR 279), (1, vI a)]) (by rw [he]; rfl) rfl rfl rfl rfl ?_
              exact ih (k + 1) (by omega) (by omega)
        · refine go_iload 3 dX10_run_62 rfl ?_
          refine go_goto (tgt := 69) dX10_run_64 rfl ?_
          refine go_istore (lv' := [(4, vI ((rnS (fun j => M 284 (j + 1)) k).1)), (5, vI ((k : Nat) : Int)), (2, vI ((rnS (fun j => M 284 (j + 1)) k).2.1)), (3, vI ((rnS (fun j => M 284 (j + 1)) k).2.2)), (0, vR 279), (1, vI a)]) dX10_run_69 (by decide) rfl ?_
          refine go_iload 1 dX10_run_71 rfl ?_
          refine go_iload 0 dX10_run_73 rfl ?_
          refine gx_isub (v := (((k : Nat) : Int) - (rnS (fun j => M 284 (j + 1)) k).1)) dX10_run_75 rfl ⟨by omega, by omega⟩ ?_
          refine go_iconst dX10_run_76 (by decide) ?_
          refine gx_iadd (v := ((((k : Nat) : Int) - (rnS (fun j => M 284 (j + 1)) k).1) + 1)) dX10_run_77 rfl ⟨by omega, by omega⟩ ?_
          refine go_iload_n 3 dX10_run_78 rfl rfl ?_
          refine go_icmp_le (tgt := 87) dX10_run_79 rfl (fun c11 => ?_) (fun c11 => ?_)
          · refine go_iload_n 2 dX10_run_87 rfl rfl ?_
            refine go_istore_n (lv' := [(2, vI ((rnS (fun j => M 284 (j + 1)) k).2.1)), (4, vI ((rnS (fun j => M 284 (j + 1)) k).1)), (5, vI ((k : Nat) : Int)), (3, vI ((rnS (fun j => M 284 (j + 1)) k).2.2)), (0, vR 279), (1, vI a)]) dX10_run_88 rfl (by decide) rfl ?_
            refine go_iload 2 dX10_run_89 rfl ?_
            refine go_iload 1 dX10_run_91 rfl ?_
            refine gx_isub (v := (((k : Nat) : Int) - (rnS (fun j => M 284 (j + 1)) k).1)) dX10_run_93 rfl ⟨by omega, by omega⟩ ?_
            refine go_iconst dX10_run_94 (by decide) ?_
            refine gx_iadd (v := ((((k : Nat) : Int) - (rnS (fun j => M 284 (j + 1)) k).1) + 1)) dX10_run_95 rfl ⟨by omega, by omega⟩ ?_
            refine go_iload_n 3 dX10_run_96 rfl rfl ?_
            refine go_icmp_le (tgt := 110) dX10_run_97 rfl (fun c12 => ?_) (fun c12 => ?_)
            · refine go_iload_n 3 dX10_run_110 rfl rfl ?_
              refine go_istore_n (lv' := [(3, vI ((rnS (fun j => M 284 (j + 1)) k).2.2)), (2, vI ((rnS (fun j => M 284 (j + 1)) k).2.1)), (4, vI ((rnS (fun j => M 284 (j + 1)) k).1)), (5, vI ((k : Nat) : Int)), (0, vR 279), (1, vI a)]) dX10_run_111 rfl (by decide) rfl ?_
              refine gx_iinc (v := ((k + 1 : Nat) : Int)) (lv' := [(5, vI ((k + 1 : Nat) : Int)), (3, vI ((rnS (fun j => M 284 (j + 1)) k).2.2)), (2, vI ((rnS (fun j => M 284 (j + 1)) k).2.1)), (4, vI ((rnS (fun j => M 284 (j + 1)) k).1)), (0, vR 279), (1, vI a)]) 3 dX10_run_112 rfl (by omega) ⟨by omega, by omega⟩ (by decide) rfl ?_
              refine go_goto (tgt := 23) dX10_run_115 rfl ?_
              refine go_lv [0, 2, 1, 3, 4, 5] rfl ?_
              have hf : rnF (fun j => M 284 (j + 1)) k (rnS (fun j => M 284 (j + 1)) k).1 = (rnS (fun j => M 284 (j + 1)) k).1 := by
                show (if 0 < k ∧ M 284 (k + 1) = M 284 (k - 1 + 1) then _ else _) = _
                first | exact if_pos (by omega) | exact if_neg (by omega)
              have he : (rnS (fun j => M 284 (j + 1)) (k + 1)) = ((rnS (fun j => M 284 (j + 1)) k).1, (rnS (fun j => M 284 (j + 1)) k).2.1, (rnS (fun j => M 284 (j + 1)) k).2.2) := by
                rw [rnS, hf]
                first | (exfalso; omega) | (rw [if_pos (by omega), if_pos (by omega)]; done) | (rw [if_neg (by omega), if_neg (by omega)]; done)
              refine go_eq (lv' := [(5, vI (((k + 1) : Nat) : Int)), (2, vI ((rnS (fun j => M 284 (j + 1)) (k + 1)).2.1)), (3, vI ((rnS (fun j => M 284 (j + 1)) (k + 1)).2.2)), (4, vI ((rnS (fun j => M 284 (j + 1)) (k + 1)).1)), (0, vR 279), (1, vI a)]) (by rw [he]; rfl) rfl rfl rfl rfl ?_
              exact ih (k + 1) (by omega) (by omega)
            · refine go_iload 2 dX10_run_100 rfl ?_
              refine go_iload 1 dX10_run_102 rfl ?_
              refine gx_isub (v := (((k : Nat) : Int) - (rnS (fun j => M 284 (j + 1)) k).1)) dX10_run_104 rfl ⟨by omega, by omega⟩ ?_
              refine go_iconst dX10_run_105 (by decide) ?_
              refine gx_iadd (v := ((((k : Nat) : Int) - (rnS (fun j => M 284 (j + 1)) k).1) + 1)) dX10_run_106 rfl ⟨by omega, by omega⟩ ?_
              refine go_goto (tgt := 111) dX10_run_107 rfl ?_
              refine go_istore_n (lv' := [(3, vI ((((k : Nat) : Int) - (rnS (fun j => M 284 (j + 1)) k).1) + 1)), (2, vI ((rnS (fun j => M 284 (j + 1)) k).2.1)), (4, vI ((rnS (fun j => M 284 (j + 1)) k).1)), (5, vI ((k : Nat) : Int)), (0, vR 279), (1, vI a)]) dX10_run_111 rfl (by decide) rfl ?_
              refine gx_iinc (v := ((k + 1 : Nat) : Int)) (lv' := [(5, vI ((k + 1 : Nat) : Int)), (3, vI ((((k : Nat) : Int) - (rnS (fun j => M 284 (j + 1)) k).1) + 1)), (2, vI ((rnS (fun j => M 284 (j + 1)) k).2.1)), (4, vI ((rnS (fun j => M 284 (j + 1)) k).1)), (0, vR 279), (1, vI a)]) 3 dX10_run_112 rfl (by omega) ⟨by omega, by omega⟩ (by decide) rfl ?_
              refine go_goto (tgt := 23) dX10_run_115 rfl ?_
              refine go_lv [0, 2, 1, 3, 4, 5] rfl ?_
              have hf : rnF (fun j => M 284 (j + 1)) k (rnS (fun j => M 284 (j + 1)) k).1 = (rnS (fun j => M 284 (j + 1)) k).1 := by
                show (if 0 < k ∧ M 284 (k + 1) = M 284 (k - 1 + 1) then _ else _) = _
                first | exact if_pos (by omega) | exact if_neg (by omega)
              have he : (rnS (fun j => M 284 (j + 1)) (k + 1)) = ((rnS (fun j => M 284 (j + 1)) k).1, (rnS (fun j => M 284 (j + 1)) k).2.1, ((((k : Nat) : Int) - (rnS (fun j => M 284 (j + 1)) k).1) + 1)) := by
                rw [rnS, hf]
                first | (exfalso; omega) | (rw [if_pos (by omega), if_pos (by omega)]; done) | (rw [if_neg (by omega), if_neg (by omega)]; done)
              refine go_eq (lv' := [(5, vI (((k + 1) : Nat) : Int)), (2, vI ((rnS (fun j => M 284 (j + 1)) (k + 1)).2.1)), (3, vI ((rnS (fun j => M 284 (j + 1)) (k + 1)).2.2)), (4, vI ((rnS (fun j => M 284 (j + 1)) (k + 1)).1)), (0, vR 279), (1, vI a)]) (by rw [he]; rfl) rfl rfl rfl rfl ?_
              exact ih (k + 1) (by omega) (by omega)
          · refine go_iload 0 dX10_run_82 rfl ?_
            refine go_goto (tgt := 88) dX10_run_84 rfl ?_
            refine go_istore_n (lv' := [(2, vI ((rnS (fun j => M 284 (j + 1)) k).1)), (4, vI ((rnS (fun j => M 284 (j + 1)) k).1)), (5, vI ((k : Nat) : Int)), (3, vI ((rnS (fun j => M 284 (j + 1)) k).2.2)), (0, vR 279), (1, vI a)]) dX10_run_88 rfl (by decide) rfl ?_
            refine go_iload 2 dX10_run_89 rfl ?_
            refine go_iload 1 dX10_run_91 rfl ?_
            refine gx_isub (v := (((k : Nat) : Int) - (rnS (fun j => M 284 (j + 1)) k).1)) dX10_run_93 rfl ⟨by omega, by omega⟩ ?_
            refine go_iconst dX10_run_94 (by decide) ?_
            refine gx_iadd (v := ((((k : Nat) : Int) - (rnS (fun j => M 284 (j + 1)) k).1) + 1)) dX10_run_95 rfl ⟨by omega, by omega⟩ ?_
            refine go_iload_n 3 dX10_run_96 rfl rfl ?_
            refine go_icmp_le (tgt := 110) dX10_run_97 rfl (fun c13 => ?_) (fun c13 => ?_)
            · refine go_iload_n 3 dX10_run_110 rfl rfl ?_
              refine go_istore_n (lv' := [(3, vI ((rnS (fun j => M 284 (j + 1)) k).2.2)), (2, vI ((rnS (fun j => M 284 (j + 1)) k).1)), (4, vI ((rnS (fun j => M 284 (j + 1)) k).1)), (5, vI ((k : Nat) : Int)), (0, vR 279), (1, vI a)]) dX10_run_111 rfl (by decide) rfl ?_
              refine gx_iinc (v := ((k + 1 : Nat) : Int)) (lv' := [(5, vI ((k + 1 : Nat) : Int)), (3, vI ((rnS (fun j => M 284 (j + 1)) k).2.2)), (2, vI ((rnS (fun j => M 284 (j + 1)) k).1)), (4, vI ((rnS (fun j => M 284 (j + 1)) k).1)), (0, vR 279), (1, vI a)]) 3 dX10_run_112 rfl (by omega) ⟨by omega, by omega⟩ (by decide) rfl ?_
              refine go_goto (tgt := 23) dX10_run_115 rfl ?_
              refine go_lv [0, 2, 1, 3, 4, 5] rfl ?_
              have hf : rnF (fun j => M 284 (j + 1)) k (rnS (fun j => M 284 (j + 1)) k).1 = (rnS (fun j => M 284 (j + 1)) k).1 := by
                show (if 0 < k ∧ M 284 (k + 1) = M 284 (k - 1 + 1) then _ else _) = _
                first | exact if_pos (by omega) | exact if_neg (by omega)
              have he : (rnS (fun j => M 284 (j + 1)) (k + 1)) = ((rnS (fun j => M 284 (j + 1)) k).1, (rnS (fun j => M 284 (j + 1)) k).1, (rnS (fun j => M 284 (j + 1)) k).2.2) := by
                rw [rnS, hf]
                first | (exfalso; omega) | (rw [if_pos (by omega), if_pos (by omega)]; done) | (rw [if_neg (by omega), if_neg (by omega)]; done)
              refine go_eq (lv' := [(5, vI (((k + 1) : Nat) : Int)), (2, vI ((rnS (fun j => M 284 (j + 1)) (k + 1)).2.1)), (3, vI ((rnS (fun j => M 284 (j + 1)) (k + 1)).2.2)), (4, vI ((rnS (fun j => M 284 (j + 1)) (k + 1)).1)), (0, vR 279), (1, vI a)]) (by rw [he]; rfl) rfl rfl rfl rfl ?_
              exact ih (k + 1) (by omega) (by omega)
            · refine go_iload 2 dX10_run_100 rfl ?_
              refine go_iload 1 dX10_run_102 rfl ?_
              refine gx_isub (v := (((k : Nat) : Int) - (rnS (fun j => M 284 (j + 1)) k).1)) dX10_run_104 rfl ⟨by omega, by omega⟩ ?_
              refine go_iconst dX10_run_105 (by decide) ?_
              refine gx_iadd (v := ((((k : Nat) : Int) - (rnS (fun j => M 284 (j + 1)) k).1) + 1)) dX10_run_106 rfl ⟨by omega, by omega⟩ ?_
              refine go_goto (tgt := 111) dX10_run_107 rfl ?_
              refine go_istore_n (lv' := [(3, vI ((((k : Nat) : Int) - (rnS (fun j => M 284 (j + 1)) k).1) + 1)), (2, vI ((rnS (fun j => M 284 (j + 1)) k).1)), (4, vI ((rnS (fun j => M 284 (j + 1)) k).1)), (5, vI ((k : Nat) : Int)), (0, vR 279), (1, vI a)]) dX10_run_111 rfl (by decide) rfl ?_
              refine gx_iinc (v := ((k + 1 : Nat) : Int)) (lv' := [(5, vI ((k + 1 : Nat) : Int)), (3, vI ((((k : Nat) : Int) - (rnS (fun j => M 284 (j + 1)) k).1) + 1)), (2, vI ((rnS (fun j => M 284 (j + 1)) k).1)), (4, vI ((rnS (fun j => M 284 (j + 1)) k).1)), (0, vR 279), (1, vI a)]) 3 dX10_run_112 rfl (by omega) ⟨by omega, by omega⟩ (by decide) rfl ?_
              refine go_goto (tgt := 23) dX10_run_115 rfl ?_
              refine go_lv [0, 2, 1, 3, 4, 5] rfl ?_
              have hf : rnF (fun j => M 284 (j + 1)) k (rnS (fun j => M 284 (j + 1)) k).1 = (rnS (fun j => M 284 (j + 1)) k).1 := by
                show (if 0 < k ∧ M 284 (k + 1) = M 284 (k - 1 + 1) then _ else _) = _
                first | exact if_pos (by omega) | exact if_neg (by omega)
              have he : (rnS (fun j => M 284 (j + 1)) (k + 1)) = ((rnS (fun j => M 284 (j + 1)) k).1, (rnS (fun j => M 284 (j + 1)) k).1, ((((k : Nat) : Int) - (rnS (fun j => M 284 (j + 1)) k).1) + 1)) := by
                rw [rnS, hf]
                first | (exfalso; omega) | (rw [if_pos (by omega), if_pos (by omega)]; done) | (rw [if_neg (by omega), if_neg (by omega)]; done)
              refine go_eq (lv' := [(5, vI (((k + 1) : Nat) : Int)), (2, vI ((rnS (fun j => M 284 (j + 1)) (k + 1)).2.1)), (3, vI ((rnS (fun j => M 284 (j + 1)) (k + 1)).2.2)), (4, vI ((rnS (fun j => M 284 (j + 1)) (k + 1)).1)), (0, vR 279), (1, vI a)]) (by rw [he]; rfl) rfl rfl rfl rfl ?_
              exact ih (k + 1) (by omega) (by omega)

set_option maxHeartbeats 4000000 in
set_option maxRecDepth 100000 in
theorem ok_X10_run_in {w L : Nat} {a : Int} {M : inm} {Q : Int → Nat → rfm → inm → Prop} (hL : Lay10 M L) (ha : a = 0 ∨ a = 1) (g0 : a = 0 → Q (rnS (fun j => M 284 (j + 1)) L).2.2 303 (PP w) M) (g1 : a = 1 → Q (rnS (fun j => M 284 (j + 1)) L).2.1 303 (PP w) M) : OkI yX10_run cX10_run 6 1 0 0 (some .int) [vR 279, vI a] 303 (PP w) M Q := by
  refine OkI.of (by decide +kernel) (by decide +kernel) (Nat.le_of_ble_eq_true rfl) ?_
  refine go_eq (lv' := [(0, vR 279), (1, vI a)]) rfl rfl rfl rfl rfl ?_
  refine go_iload_n 1 dX10_run_0 rfl rfl ?_
  refine go_i2l dX10_run_1 ?_
  refine go_lconst (z := 0) dX10_run_2 (by decide) (by decide) ?_
  refine go_lconst (z := 1) dX10_run_3 (by decide) (by decide) ?_
  refine go_callSI (av := [vL a, vL 0, vL 1]) (st := []) (mc2 := 0) (ms2 := 0) dX10_run_4 cw10_87 (by decide) rfl rfl (Nat.le_of_ble_eq_true rfl) rfl rfl (ok_X10_in (fun _ _ => ?_) (fun h => absurd ⟨by omega, by omega⟩ h))
  refine go_if_ne (tgt := 13) dX10_run_7 rfl (fun c1 => ?_) (fun c1 => ?_)
  · refine go_iconst dX10_run_13 (by decide) ?_
    refine go_istore_n (lv' := [(2, vI (-1)), (0, vR 279), (1, vI a)]) dX10_run_14 rfl (by decide) rfl ?_
    refine go_iconst dX10_run_15 (by decide) ?_
    refine go_istore_n (lv' := [(3, vI 0), (2, vI (-1)), (0, vR 279), (1, vI a)]) dX10_run_16 rfl (by decide) rfl ?_
    refine go_iconst dX10_run_17 (by decide) ?_
    refine go_istore (lv' := [(4, vI 0), (3, vI 0), (2, vI (-1)), (0, vR 279), (1, vI a)]) dX10_run_18 (by decide) rfl ?_
    refine go_iconst dX10_run_20 (by decide) ?_
    refine go_istore (lv' := [(5, vI 0), (4, vI 0), (3, vI 0), (2, vI (-1)), (0, vR 279), (1, vI a)]) dX10_run_21 (by decide) rfl ?_
    refine go_lv [0, 3, 2, 1, 4, 5] rfl ?_
    exact lp_X10_run hL ha g0 g1 (L + 1) 0 (by omega) (by omega)
  · exact absurd c1 (by decide)

set_option maxHeartbeats 4000000 in
set_option maxRecDepth 100000 in
theorem ok_X10_run_out {w : Nat} {a : Int} {M : inm} {Q : Int → Nat → rfm → inm → Prop} (hb : ¬ (a = 0 ∨ a = 1)) (hQ : Q (-1000000002) 303 (PP w) M) : OkI yX10_run cX10_run 6 1 0 0 (some .int) [vR 279, vI a] 303 (PP w) M Q := by
  refine OkI.of (by decide +kernel) (by decide +kernel) (Nat.le_of_ble_eq_true rfl) ?_
  refine go_eq (lv' := [(0, vR 279), (1, vI a)]) rfl rfl rfl rfl rfl ?_
  refine go_iload_n 1 dX10_run_0 rfl rfl ?_
  refine go_i2l dX10_run_1 ?_
  refine go_lconst (z := 0) dX10_run_2 (by decide) (by decide) ?_
  refine go_lconst (z := 1) dX10_run_3 (by decide) (by decide) ?_
  refine go_callSI (av := [vL a, vL 0, vL 1]) (st := []) (mc2 := 0) (ms2 := 0) dX10_run_4 cw10_87 (by decide) rfl rfl (Nat.le_of_ble_eq_true rfl) rfl rfl (ok_X10_in (fun a1 a2 => absurd (And.intro a1 a2) (by omega)) (fun _ => ?_))
  refine go_if_ne (tgt := 13) dX10_run_7 rfl (fun c1 => ?_) (fun c1 => ?_)
  · exact absurd c1 (by decide)
  · refine go_ldc dX10_run_10 ik10_96 (by decide) ?_
    refine go_iret dX10_run_12 rfl rfl ⟨_, rfl, ?_⟩
    exact hQ

set_option maxHeartbeats 4000000 in
set_option maxRecDepth 100000 in
theorem lp_X10_dry {w n : Nat} {q : Int} {M : inm} {Q : Int → Nat → rfm → inm → Prop} (hn : n ≤ 60) (hq : 0 ≤ q ∧ q ≤ 100) (hQ : Q (dryO q n) 303 (PP w) M) : ∀ (d k : Nat), n < k + d → k ≤ n → Go S0 yX10_dry cX10_dry 6 1 0 0 (some .int) 34 [(5, vI ((k : Nat) : Int)), (3, vL (dryO q k)), (0, vR 279), (1, vI ((n : Nat) : Int)), (2, vI q)] [] 303 (PP w) M (fun v n P M => ∃ z, v = some (vI z) ∧ Q z n P M) := by
  intro d
  induction d with
  | zero => intro k h1 h2; exfalso; omega
  | succ d ih =>
    intro k h1 h2
    have hd := dryO_in hq k
    refine go_iload 0 dX10_dry_34 rfl ?_
    refine go_iload_n 3 dX10_dry_36 rfl rfl ?_
    refine go_icmp_ge (tgt := 55) dX10_dry_37 rfl (fun c1 => ?_) (fun c1 => ?_)
    · refine go_lload_n 1 dX10_dry_55 rfl rfl ?_
      refine go_l2i dX10_dry_56 ⟨by omega, by omega⟩ ?_
      refine go_iret dX10_dry_57 rfl rfl ⟨_, rfl, ?_⟩
      rw [show k = n by omega]
      exact hQ
    · refine go_lload_n 1 dX10_dry_40 rfl rfl ?_
      refine go_iload_n 4 dX10_dry_41 rfl rfl ?_
      refine go_i2l dX10_dry_42 ?_
      refine go_lmul dX10_dry_43 ⟨by omega, by omega⟩ ?_
      refine go_ldc2 dX10_dry_44 jk10_297 (by decide) ?_
      refine go_ldiv dX10_dry_47 (by omega) (by omega) ?_
      refine go_lstore_n (lv' := [(3, vL (((dryO q k) * q) / 100)), (5, vI ((k : Nat) : Int)), (0, vR 279), (1, vI ((n : Nat) : Int)), (2, vI q)]) dX10_dry_48 rfl (by decide) rfl ?_
      refine gx_iinc (v := ((k + 1 : Nat) : Int)) (lv' := [(5, vI ((k + 1 : Nat) : Int)), (3, vL (((dryO q k) * q) / 100)), (0, vR 279), (1, vI ((n : Nat) : Int)), (2, vI q)]) 1 dX10_dry_49 rfl (by omega) ⟨by omega, by omega⟩ (by decide) rfl ?_
      refine go_goto (tgt := 34) dX10_dry_52 rfl ?_
      have e2 : (((dryO q k) * q) / 100) = (dryO q (k + 1)) := by rfl
      rw [e2]
      exact ih (k + 1) (by omega) (by omega)

set_option maxHeartbeats 4000000 in
set_option maxRecDepth 100000 in
theorem ok_X10_dry_in {w n : Nat} {q : Int} {M : inm} {Q : Int → Nat → rfm → inm → Prop} (hn : n ≤ 60) (hq : 0 ≤ q ∧ q ≤ 100) (hQ : Q (dryO q n) 303 (PP w) M) : OkI yX10_dry cX10_dry 6 1 0 0 (some .int) [vR 279, vI ((n : Nat) : Int), vI q] 303 (PP w) M Q := by
  refine OkI.of (by decide +kernel) (by decide +kernel) (Nat.le_of_ble_eq_true rfl) ?_
  refine go_eq (lv' := [(0, vR 279), (1, vI ((n : Nat) : Int)), (2, vI q)]) rfl rfl rfl rfl rfl ?_
  refine go_iload_n 1 dX10_dry_0 rfl rfl ?_
  refine go_i2l dX10_dry_1 ?_
  refine go_lconst (z := 0) dX10_dry_2 (by decide) (by decide) ?_
  refine go_ldc2 dX10_dry_3 jk10_295 (by decide) ?_
  refine go_callSI (av := [vL ((n : Nat) : Int), vL 0, vL 60]) (st := []) (mc2 := 0) (ms2 := 0) dX10_dry_6 cw10_87 (by decide) rfl rfl (Nat.le_of_ble_eq_true rfl) rfl rfl (ok_X10_in (fun _ _ => ?_) (fun h => absurd ⟨by omega, by omega⟩ h))
  refine go_if_eq (tgt := 24) dX10_dry_9 rfl (fun c1 => ?_) (fun c1 => ?_)
  · exact absurd c1 (by decide)
  · refine go_iload_n 2 dX10_dry_12 rfl rfl ?_
    refine go_i2l dX10_dry_13 ?_
    refine go_lconst (z := 0) dX10_dry_14 (by decide) (by decide) ?_
    refine go_ldc2 dX10_dry_15 jk10_297 (by decide) ?_
    refine go_callSI (av := [vL q, vL 0, vL 100]) (st := []) (mc2 := 0) (ms2 := 0) dX10_dry_18 cw10_87 (by decide) rfl rfl (Nat.le_of_ble_eq_true rfl) rfl rfl (ok_X10_in (fun _ _ => ?_) (fun h => absurd ⟨by omega, by omega⟩ h))
    refine go_if_ne (tgt := 27) dX10_dry_21 rfl (fun c2 => ?_) (fun c2 => ?_)
    · refine go_ldc2 dX10_dry_27 jk10_299 (by decide) ?_
      refine go_lstore_n (lv' := [(3, vL 1000000000), (0, vR 279), (1, vI ((n : Nat) : Int)), (2, vI q)]) dX10_dry_30 rfl (by decide) rfl ?_
      refine go_iconst dX10_dry_31 (by decide) ?_
      refine go_istore (lv' := [(5, vI 0), (3, vL 1000000000), (0, vR 279), (1, vI ((n : Nat) : Int)), (2, vI q)]) dX10_dry_32 (by decide) rfl ?_
      refine go_eq (lv' := [(5, vI 0), (3, vL (dryO q 0)), (0, vR 279), (1, vI ((n : Nat) : Int)), (2, vI q)]) (rfl) rfl rfl rfl rfl ?_
      exact lp_X10_dry hn hq hQ (n + 1) 0 (by omega) (by omega)
    · exact absurd c2 (by decide)

set_option maxHeartbeats 4000000 in
set_option maxRecDepth 100000 in
theorem ok_X10_dry_out {w : Nat} {k q : Int} {M : inm} {Q : Int → Nat → rfm → inm → Prop} (hk : ¬ (0 ≤ k ∧ k ≤ 60 ∧ 0 ≤ q ∧ q ≤ 100)) (hQ : Q (-1000000002) 303 (PP w) M) : OkI yX10_dry cX10_dry 6 1 0 0 (some .int) [vR 279, vI k, vI q] 303 (PP w) M Q := by
  refine OkI.of (by decide +kernel) (by decide +kernel) (Nat.le_of_ble_eq_true rfl) ?_
  refine go_eq (lv' := [(0, vR 279), (1, vI k), (2, vI q)]) rfl rfl rfl rfl rfl ?_
  refine go_iload_n 1 dX10_dry_0 rfl rfl ?_
  refine go_i2l dX10_dry_1 ?_
  refine go_lconst (z := 0) dX10_dry_2 (by decide) (by decide) ?_
  refine go_ldc2 dX10_dry_3 jk10_295 (by decide) ?_
  refine go_callSI (av := [vL k, vL 0, vL 60]) (st := []) (mc2 := 0) (ms2 := 0) dX10_dry_6 cw10_87 (by decide) rfl rfl (Nat.le_of_ble_eq_true rfl) rfl rfl (ok_X10_in (fun i1 i2 => ?_) (fun i3 => ?_))
  · skip
    refine go_if_eq (tgt := 24) dX10_dry_9 rfl (fun c4 => ?_) (fun c4 => ?_)
    · exact absurd c4 (by decide)
    · refine go_iload_n 2 dX10_dry_12 rfl rfl ?_
      refine go_i2l dX10_dry_13 ?_
      refine go_lconst (z := 0) dX10_dry_14 (by decide) (by decide) ?_
      refine go_ldc2 dX10_dry_15 jk10_297 (by decide) ?_
      refine go_callSI (av := [vL q, vL 0, vL 100]) (st := []) (mc2 := 0) (ms2 := 0) dX10_dry_18 cw10_87 (by decide) rfl rfl (Nat.le_of_ble_eq_true rfl) rfl rfl (ok_X10_in (fun i5 i6 => ?_) (fun i7 => ?_))
      · skip
        refine go_if_ne (tgt := 27) dX10_dry_21 rfl (fun c8 => ?_) (fun c8 => ?_)
        · exfalso; omega
        · exact absurd c8 (by decide)
      · skip
        refine go_if_ne (tgt := 27) dX10_dry_21 rfl (fun c9 => ?_) (fun c9 => ?_)
        · exact absurd c9 (by decide)
        · refine go_ldc dX10_dry_24 ik10_96 (by decide) ?_
          refine go_iret dX10_dry_26 rfl rfl ⟨_, rfl, ?_⟩
          exact hQ
  · skip
    refine go_if_eq (tgt := 24) dX10_dry_9 rfl (fun c10 => ?_) (fun c10 => ?_)
    · refine go_ldc dX10_dry_24 ik10_96 (by decide) ?_
      refine go_iret dX10_dry_26 rfl rfl ⟨_, rfl, ?_⟩
      exact hQ
    · exact absurd c10 (by decide)

set_option maxHeartbeats 4000000 in
set_option maxRecDepth 100000 in
theorem lp_X10_couldBe0 {w T c t : Nat} {lt gk : Nat → Nat} {M : inm} {b : Nat} {Q : Int → Nat → rfm → inm → Prop} (hT : Tys10 M T lt) (hc : M 279 13 = (c : Int)) (h6 : c ≤ 6) (hg : ∀ i, i < c → M 287 i = (gk i : Int)) (hgi : ∀ i, i < c → M 289 i = 0 ∨ M 289 i = 1) (ht : t < T) (g1 : allTo (fun i => decide ((if kindV lt (fun t k => M 283 (8 * t + k)) t (gk i) = M 288 i then 1 else 0) = M 289 i)) c = true → Q 1 303 (PP w) M) (g0 : allTo (fun i => decide ((if kindV lt (fun t k => M 283 (8 * t + k)) t (gk i) = M 288 i then 1 else 0) = M 289 i)) c = false → Q 0 303 (PP w) M) (hb : b < c) (hbad : (fun i => decide ((if kindV lt (fun t k => M 283 (8 * t + k)) t (gk i) = M 288 i then 1 else 0) = M 289 i)) b = false) : ∀ (d k : Nat), c < k + d → k ≤ c → Go S0 yX10_couldBeOne cX10_couldBeOne 4 1 0 0 (some .boolean) 4 [(3, vI ((k : Nat) : Int)), (2, vI 0), (0, vR 279), (1, vI ((t : Nat) : Int))] [] 303 (PP w) M (fun v n P M => ∃ z, v = some (vI z) ∧ Q z n P M) := by
  intro d
  induction d with
  | zero => intro k h1 h2; exfalso; omega
  | succ d ih =>
    intro k h1 h2
    refine go_iload_n 0 dX10_couldBeOne_4 rfl rfl ?_
    refine go_aload_n 2 dX10_couldBeOne_5 rfl rfl ?_
    refine gx_getI (v := ((c : Nat) : Int)) dX10_couldBeOne_6 lk10_173.get kd_279 (by omega) rfl hc ?_
    refine go_icmp_ge (tgt := 71) dX10_couldBeOne_9 rfl (fun c1 => ?_) (fun c1 => ?_)
    · refine go_iload_n 1 dX10_couldBeOne_71 rfl rfl ?_
      refine go_iret dX10_couldBeOne_72 rfl rfl ⟨_, rfl, ?_⟩
      exact g0 (allTo_no hbad c (by omega))
    · refine go_iload_n 1 dX10_couldBeOne_12 rfl rfl ?_
      refine go_if_eq (tgt := 63) dX10_couldBeOne_13 rfl (fun c2 => ?_) (fun c2 => ?_)
      · refine go_iconst dX10_couldBeOne_63 (by decide) ?_
        refine go_istore_n (lv' := [(2, vI 0), (3, vI ((k : Nat) : Int)), (0, vR 279), (1, vI ((t : Nat) : Int))]) dX10_couldBeOne_64 rfl (by decide) rfl ?_
        refine gx_iinc (v := ((k + 1 : Nat) : Int)) (lv' := [(3, vI ((k + 1 : Nat) : Int)), (2, vI 0), (0, vR 279), (1, vI ((t : Nat) : Int))]) 1 dX10_couldBeOne_65 rfl (by omega) ⟨by omega, by omega⟩ (by decide) rfl ?_
        refine go_goto (tgt := 4) dX10_couldBeOne_68 rfl ?_
        exact ih (k + 1) (by omega) (by omega)
      · exact absurd c2 (by decide)

set_option maxHeartbeats 4000000 in
set_option maxRecDepth 100000 in
theorem lp_X10_couldBe1 {w T c t : Nat} {lt gk : Nat → Nat} {M : inm} {Q : Int → Nat → rfm → inm → Prop} (hT : Tys10 M T lt) (hc : M 279 13 = (c : Int)) (h6 : c ≤ 6) (hg : ∀ i, i < c → M 287 i = (gk i : Int)) (hgi : ∀ i, i < c → M 289 i = 0 ∨ M 289 i = 1) (ht : t < T) (g1 : allTo (fun i => decide ((if kindV lt (fun t k => M 283 (8 * t + k)) t (gk i) = M 288 i then 1 else 0) = M 289 i)) c = true → Q 1 303 (PP w) M) (g0 : allTo (fun i => decide ((if kindV lt (fun t k => M 283 (8 * t + k)) t (gk i) = M 288 i then 1 else 0) = M 289 i)) c = false → Q 0 303 (PP w) M) : ∀ d k, c < k + d → k ≤ c → allTo (fun i => decide ((if kindV lt (fun t k => M 283 (8 * t + k)) t (gk i) = M 288 i then 1 else 0) = M 289 i)) k = true → Go S0 yX10_couldBeOne cX10_couldBeOne 4 1 0 0 (some .boolean) 4 [(3, vI ((k : Nat) : Int)), (2, vI 1), (0, vR 279), (1, vI ((t : Nat) : Int))] [] 303 (PP w) M (fun v n P M => ∃ z, v = some (vI z) ∧ Q z n P M) := by
  intro d
  induction d with
  | zero => intro k h1 h2; exfalso; omega
  | succ d ih =>
    intro k h1 h2 hk
    refine go_iload_n 0 dX10_couldBeOne_4 rfl rfl ?_
    refine go_aload_n 2 dX10_couldBeOne_5 rfl rfl ?_
    refine gx_getI (v := ((c : Nat) : Int)) dX10_couldBeOne_6 lk10_173.get kd_279 (by omega) rfl hc ?_
    refine go_icmp_ge (tgt := 71) dX10_couldBeOne_9 rfl (fun c1 => ?_) (fun c1 => ?_)
    · refine go_iload_n 1 dX10_couldBeOne_71 rfl rfl ?_
      refine go_iret dX10_couldBeOne_72 rfl rfl ⟨_, rfl, ?_⟩
      exact g1 (by rw [← show k = c by omega]; exact hk)
    · refine go_iload_n 1 dX10_couldBeOne_12 rfl rfl ?_
      refine go_if_eq (tgt := 63) dX10_couldBeOne_13 rfl (fun c2 => ?_) (fun c2 => ?_)
      · exact absurd c2 (by decide)
      · refine go_aload_n 2 dX10_couldBeOne_16 rfl rfl ?_
        refine go_iload_n 3 dX10_couldBeOne_17 rfl rfl ?_
        refine go_aload_n 2 dX10_couldBeOne_18 rfl rfl ?_
        refine go_getR (r := 287) dX10_couldBeOne_19 lk10_31.get kd_279 (by omega) rfl (pp_279_14 w) ?_
        refine go_iload_n 0 dX10_couldBeOne_22 rfl rfl ?_
        refine gx_iaload (v := ((gk k : Nat) : Int)) k dX10_couldBeOne_23 kd_287 (by omega) ln_287 rfl (by omega) ((hg k (by omega))) ?_
        refine go_callVI (av := [vI ((t : Nat) : Int), vI ((gk k : Nat) : Int)]) (st := []) (a := 279) (mc2 := 0) (ms2 := 0) dX10_couldBeOne_24 cw10_301 (by decide) rfl rfl (Nat.le_of_ble_eq_true rfl) rfl rfl kd_279 ⟨_, _, rfl⟩ (by decide) (by omega) (ok_X10_kindIn (j := t) (i := gk k) hT (by omega) ?_)
        refine go_aload_n 2 dX10_couldBeOne_27 rfl rfl ?_
        refine go_getR (r := 288) dX10_couldBeOne_28 lk10_34.get kd_279 (by omega) rfl (pp_279_15 w) ?_
        refine go_iload_n 0 dX10_couldBeOne_31 rfl rfl ?_
        refine gx_iaload (v := (M 288 k)) k dX10_couldBeOne_32 kd_288 (by omega) ln_288 rfl (by omega) rfl ?_
        refine go_icmp_ne (tgt := 40) dX10_couldBeOne_33 rfl (fun c3 => ?_) (fun c3 => ?_)
        · refine go_iconst dX10_couldBeOne_40 (by decide) ?_
          refine go_aload_n 2 dX10_couldBeOne_41 rfl rfl ?_
          refine go_getR (r := 289) dX10_couldBeOne_42 lk10_37.get kd_279 (by omega) rfl (pp_279_16 w) ?_
          refine go_iload_n 0 dX10_couldBeOne_45 rfl rfl ?_
          have f4 := hgi k (by omega)
          refine gx_iaload (v := (M 289 k)) k dX10_couldBeOne_46 kd_289 (by omega) ln_289 rfl (by omega) rfl ?_
          refine go_iconst dX10_couldBeOne_47 (by decide) ?_
          refine go_icmp_ne (tgt := 55) dX10_couldBeOne_48 rfl (fun c5 => ?_) (fun c5 => ?_)
          · refine go_iconst dX10_couldBeOne_55 (by decide) ?_
            refine go_icmp_ne (tgt := 63) dX10_couldBeOne_56 rfl (fun c6 => ?_) (fun c6 => ?_)
            · exact absurd c6 (by decide)
            · refine go_iconst dX10_couldBeOne_59 (by decide) ?_
              refine go_goto (tgt := 64) dX10_couldBeOne_60 rfl ?_
              refine go_istore_n (lv' := [(2, vI 1), (3, vI ((k : Nat) : Int)), (0, vR 279), (1, vI ((t : Nat) : Int))]) dX10_couldBeOne_64 rfl (by decide) rfl ?_
              refine gx_iinc (v := ((k + 1 : Nat) : Int)) (lv' := [(3, vI ((k + 1 : Nat) : Int)), (2, vI 1), (0, vR 279), (1, vI ((t : Nat) : Int))]) 1 dX10_couldBeOne_65 rfl (by omega) ⟨by omega, by omega⟩ (by decide) rfl ?_
              refine go_goto (tgt := 4) dX10_couldBeOne_68 rfl ?_
              refine go_lv [0, 1, 2, 3] rfl ?_
              exact ih (k + 1) (by omega) (by omega) (allTo_s hk (decide_eq_true (by first | (rw [if_pos (by assumption)]; omega) | (rw [if_neg (by assumption)]; omega))))
          · refine go_iconst dX10_couldBeOne_51 (by decide) ?_
            refine go_goto (tgt := 56) dX10_couldBeOne_52 rfl ?_
            refine go_icmp_ne (tgt := 63) dX10_couldBeOne_56 rfl (fun c7 => ?_) (fun c7 => ?_)
            · refine go_iconst dX10_couldBeOne_63 (by decide) ?_
              refine go_istore_n (lv' := [(2, vI 0), (3, vI ((k : Nat) : Int)), (0, vR 279), (1, vI ((t : Nat) : Int))]) dX10_couldBeOne_64 rfl (by decide) rfl ?_
              refine gx_iinc (v := ((k + 1 : Nat) : Int)) (lv' := [(3, vI ((k + 1 : Nat) : Int)), (2, vI 0), (0, vR 279), (1, vI ((t : Nat) : Int))]) 1 dX10_couldBeOne_65 rfl (by omega) ⟨by omega, by omega⟩ (by decide) rfl ?_
              refine go_goto (tgt := 4) dX10_couldBeOne_68 rfl ?_
              refine go_lv [0, 1, 2, 3] rfl ?_
              exact lp_X10_couldBe0 hT hc h6 hg hgi ht g1 g0 (b := k) (by omega) (decide_eq_false (by first | (rw [if_pos (by assumption)]; omega) | (rw [if_neg (by assumption)]; omega))) (c + 1) (k + 1) (by omega) (by omega)
            · exact absurd c7 (by decide)
        · refine go_iconst dX10_couldBeOne_36 (by decide) ?_
          refine go_goto (tgt := 41) dX10_couldBeOne_37 rfl ?_
          refine go_aload_n 2 dX10_couldBeOne_41 rfl rfl ?_
          refine go_getR (r := 289) dX10_couldBeOne_42 lk10_37.get kd_279 (by omega) rfl (pp_279_16 w) ?_
          refine go_iload_n 0 dX10_couldBeOne_45 rfl rfl ?_
          have f8 := hgi k (by omega)
          refine gx_iaload (v := (M 289 k)) k dX10_couldBeOne_46 kd_289 (by omega) ln_289 rfl (by omega) rfl ?_
          refine go_iconst dX10_couldBeOne_47 (by decide) ?_
          refine go_icmp_ne (tgt := 55) dX10_couldBeOne_48 rfl (fun c9 => ?_) (fun c9 => ?_)
          · refine go_iconst dX10_couldBeOne_55 (by decide) ?_
            refine go_icmp_ne (tgt := 63) dX10_couldBeOne_56 rfl (fun c10 => ?_) (fun c10 => ?_)
            · refine go_iconst dX10_couldBeOne_63 (by decide) ?_
              refine go_istore_n (lv' := [(2, vI 0), (3, vI ((k : Nat) : Int)), (0, vR 279), (1, vI ((t : Nat) : Int))]) dX10_couldBeOne_64 rfl (by decide) rfl ?_
              refine gx_iinc (v := ((k + 1 : Nat) : Int)) (lv' := [(3, vI ((k + 1 : Nat) : Int)), (2, vI 0), (0, vR 279), (1, vI ((t : Nat) : Int))]) 1 dX10_couldBeOne_65 rfl (by omega) ⟨by omega, by omega⟩ (by decide) rfl ?_
              refine go_goto (tgt := 4) dX10_couldBeOne_68 rfl ?_
              refine go_lv [0, 1, 2, 3] rfl ?_
              exact lp_X10_couldBe0 hT hc h6 hg hgi ht g1 g0 (b := k) (by omega) (decide_eq_false (by first | (rw [if_pos (by assumption)]; omega) | (rw [if_neg (by assumption)]; omega))) (c + 1) (k + 1) (by omega) (by omega)
            · exact absurd c10 (by decide)
          · refine go_iconst dX10_couldBeOne_51 (by decide) ?_
            refine go_goto (tgt := 56) dX10_couldBeOne_52 rfl ?_
            refine go_icmp_ne (tgt := 63) dX10_couldBeOne_56 rfl (fun c11 => ?_) (fun c11 => ?_)
            · exact absurd c11 (by decide)
            · refine go_iconst dX10_couldBeOne_59 (by decide) ?_
              refine go_goto (tgt := 64) dX10_couldBeOne_60 rfl ?_
              refine go_istore_n (lv' := [(2, vI 1), (3, vI ((k : Nat) : Int)), (0, vR 279), (1, vI ((t : Nat) : Int))]) dX10_couldBeOne_64 rfl (by decide) rfl ?_
              refine gx_iinc (v := ((k + 1 : Nat) : Int)) (lv' := [(3, vI ((k + 1 : Nat) : Int)), (2, vI 1), (0, vR 279), (1, vI ((t : Nat) : Int))]) 1 dX10_couldBeOne_65 rfl (by omega) ⟨by omega, by omega⟩ (by decide) rfl ?_
              refine go_goto (tgt := 4) dX10_couldBeOne_68 rfl ?_
              refine go_lv [0, 1, 2, 3] rfl ?_
              exact ih (k + 1) (by omega) (by omega) (allTo_s hk (decide_eq_true (by first | (rw [if_pos (by assumption)]; omega) | (rw [if_neg (by assumption)]; omega))))

set_option maxHeartbeats 4000000 in
set_option maxRecDepth 100000 in
theorem ok_X10_couldBeOne {w T c t : Nat} {lt gk : Nat → Nat} {M : inm} {Q : Int → Nat → rfm → inm → Prop} (hT : Tys10 M T lt) (hc : M 279 13 = (c : Int)) (h6 : c ≤ 6) (hg : ∀ i, i < c → M 287 i = (gk i : Int)) (hgi : ∀ i, i < c → M 289 i = 0 ∨ M 289 i = 1) (ht : t < T) (g1 : allTo (fun i => decide ((if kindV lt (fun t k => M 283 (8 * t + k)) t (gk i) = M 288 i then 1 else 0) = M 289 i)) c = true → Q 1 303 (PP w) M) (g0 : allTo (fun i => decide ((if kindV lt (fun t k => M 283 (8 * t + k)) t (gk i) = M 288 i then 1 else 0) = M 289 i)) c = false → Q 0 303 (PP w) M) : OkI yX10_couldBeOne cX10_couldBeOne 4 1 0 0 (some .boolean) [vR 279, vI ((t : Nat) : Int)] 303 (PP w) M Q := by
  refine OkI.of (by decide +kernel) (by decide +kernel) (Nat.le_of_ble_eq_true rfl) ?_
  refine go_eq (lv' := [(0, vR 279), (1, vI ((t : Nat) : Int))]) rfl rfl rfl rfl rfl ?_
  refine go_iconst dX10_couldBeOne_0 (by decide) ?_
  refine go_istore_n (lv' := [(2, vI 1), (0, vR 279), (1, vI ((t : Nat) : Int))]) dX10_couldBeOne_1 rfl (by decide) rfl ?_
  refine go_iconst dX10_couldBeOne_2 (by decide) ?_
  refine go_istore_n (lv' := [(3, vI 0), (2, vI 1), (0, vR 279), (1, vI ((t : Nat) : Int))]) dX10_couldBeOne_3 rfl (by decide) rfl ?_
  refine go_lv [0, 1, 2, 3] rfl ?_
  exact lp_X10_couldBe1 hT hc h6 hg hgi ht g1 g0 (c + 1) 0 (by omega) (by omega) rfl

set_option maxHeartbeats 4000000 in
set_option maxRecDepth 100000 in
theorem lp_X10_couldBe {w T c : Nat} {lt gk : Nat → Nat} {M : inm} {Q : Int → Nat → rfm → inm → Prop} (hT : Tys10 M T lt) (hc : M 279 13 = (c : Int)) (h6 : c ≤ 6) (hg : ∀ i, i < c → M 287 i = (gk i : Int)) (hgi : ∀ i, i < c → M 289 i = 0 ∨ M 289 i = 1) (hQ : Q ((orTo (setG (fun t => allTo (fun i => decide ((if kindV lt (fun t k => M 283 (8 * t + k)) t (gk i) = M 288 i then 1 else 0) = M 289 i)) c)) T : Nat) : Int) 303 (PP w) M) : ∀ (d k : Nat), T < k + d → k ≤ T → Go S0 yX10_couldBe cX10_couldBe 3 2 0 0 (some .int) 4 [(2, vI ((k : Nat) : Int)), (1, vI ((orTo (setG (fun t => allTo (fun i => decide ((if kindV lt (fun t k => M 283 (8 * t + k)) t (gk i) = M 288 i then 1 else 0) = M 289 i)) c)) k : Nat) : Int)), (0, vR 279)] [] 303 (PP w) M (fun v n P M => ∃ z, v = some (vI z) ∧ Q z n P M) := by
  have hT6 := hT.2.1
  intro d
  induction d with
  | zero => intro k h1 h2; exfalso; omega
  | succ d ih =>
    intro k h1 h2
    have hol := setG_lt (p := fun t => allTo (fun i => decide ((if kindV lt (fun t k => M 283 (8 * t + k)) t (gk i) = M 288 i then 1 else 0) = M 289 i)) c) (T := k) (by omega)
    refine go_iload_n 0 dX10_couldBe_4 rfl rfl ?_
    refine go_aload_n 2 dX10_couldBe_5 rfl rfl ?_
    refine gx_getI (v := ((T : Nat) : Int)) dX10_couldBe_6 lk10_164.get kd_279 (by omega) rfl hT.1 ?_
    refine go_icmp_ge (tgt := 36) dX10_couldBe_9 rfl (fun c1 => ?_) (fun c1 => ?_)
    · refine go_iload_n 1 dX10_couldBe_36 rfl rfl ?_
      refine go_iret dX10_couldBe_37 rfl rfl ⟨_, rfl, ?_⟩
      rw [show k = T by omega]
      exact hQ
    · refine go_iload_n 1 dX10_couldBe_12 rfl rfl ?_
      refine go_aload_n 2 dX10_couldBe_13 rfl rfl ?_
      refine go_iload_n 0 dX10_couldBe_14 rfl rfl ?_
      refine go_callVI (av := [vI ((k : Nat) : Int)]) (st := [vI ((orTo (setG (fun t => allTo (fun i => decide ((if kindV lt (fun t k => M 283 (8 * t + k)) t (gk i) = M 288 i then 1 else 0) = M 289 i)) c)) k : Nat) : Int)]) (a := 279) (mc2 := 0) (ms2 := 0) dX10_couldBe_15 cw10_304 (by decide) rfl rfl (Nat.le_of_ble_eq_true rfl) rfl rfl kd_279 ⟨_, _, rfl⟩ (by decide) (by omega) (ok_X10_couldBeOne (t := k) hT hc h6 hg hgi (by omega) (fun b2 => ?_) (fun b3 => ?_))
      · have hbit := b2
        refine go_if_eq (tgt := 27) dX10_couldBe_18 rfl (fun c4 => ?_) (fun c4 => ?_)
        · exact absurd c4 (by decide)
        · refine go_iconst dX10_couldBe_21 (by decide) ?_
          refine go_iload_n 0 dX10_couldBe_22 rfl rfl ?_
          refine gx_shl k dX10_couldBe_23 (by omega) (by omega) rfl ?_
          refine go_goto (tgt := 28) dX10_couldBe_24 rfl ?_
          refine gx_ior (a := orTo (setG (fun t => allTo (fun i => decide ((if kindV lt (fun t k => M 283 (8 * t + k)) t (gk i) = M 288 i then 1 else 0) = M 289 i)) c)) k) (b := (2 ^ k)) dX10_couldBe_28 (by omega) (by omega) ?_
          refine go_istore_n (lv' := [(1, vI (((orTo (setG (fun t => allTo (fun i => decide ((if kindV lt (fun t k => M 283 (8 * t + k)) t (gk i) = M 288 i then 1 else 0) = M 289 i)) c)) k) ||| (2 ^ k) : Nat) : Int)), (2, vI ((k : Nat) : Int)), (0, vR 279)]) dX10_couldBe_29 rfl (by decide) rfl ?_
          refine gx_iinc (v := ((k + 1 : Nat) : Int)) (lv' := [(2, vI ((k + 1 : Nat) : Int)), (1, vI (((orTo (setG (fun t => allTo (fun i => decide ((if kindV lt (fun t k => M 283 (8 * t + k)) t (gk i) = M 288 i then 1 else 0) = M 289 i)) c)) k) ||| (2 ^ k) : Nat) : Int)), (0, vR 279)]) 1 dX10_couldBe_30 rfl (by omega) ⟨by omega, by omega⟩ (by decide) rfl ?_
          refine go_goto (tgt := 4) dX10_couldBe_33 rfl ?_
          have e5 : (((orTo (setG (fun t => allTo (fun i => decide ((if kindV lt (fun t k => M 283 (8 * t + k)) t (gk i) = M 288 i then 1 else 0) = M 289 i)) c)) k) ||| (2 ^ k) : Nat) : Int) = ((orTo (setG (fun t => allTo (fun i => decide ((if kindV lt (fun t k => M 283 (8 * t + k)) t (gk i) = M 288 i then 1 else 0) = M 289 i)) c)) (k + 1) : Nat) : Int) := by (rw [orTo_s, setG]; first | (rw [if_pos hbit]; done) | (rw [if_neg (by rw [hbit]; decide)]; done))
          rw [e5]
          exact ih (k + 1) (by omega) (by omega)
      · have hbit := b3
        refine go_if_eq (tgt := 27) dX10_couldBe_18 rfl (fun c6 => ?_) (fun c6 => ?_)
        · refine go_iconst dX10_couldBe_27 (by decide) ?_
          refine gx_ior (a := orTo (setG (fun t => allTo (fun i => decide ((if kindV lt (fun t k => M 283 (8 * t + k)) t (gk i) = M 288 i then 1 else 0) = M 289 i)) c)) k) (b := 0) dX10_couldBe_28 (by omega) (by omega) ?_
          refine go_istore_n (lv' := [(1, vI (((orTo (setG (fun t => allTo (fun i => decide ((if kindV lt (fun t k => M 283 (8 * t + k)) t (gk i) = M 288 i then 1 else 0) = M 289 i)) c)) k) ||| 0 : Nat) : Int)), (2, vI ((k : Nat) : Int)), (0, vR 279)]) dX10_couldBe_29 rfl (by decide) rfl ?_
          refine gx_iinc (v := ((k + 1 : Nat) : Int)) (lv' := [(2, vI ((k + 1 : Nat) : Int)), (1, vI (((orTo (setG (fun t => allTo (fun i => decide ((if kindV lt (fun t k => M 283 (8 * t + k)) t (gk i) = M 288 i then 1 else 0) = M 289 i)) c)) k) ||| 0 : Nat) : Int)), (0, vR 279)]) 1 dX10_couldBe_30 rfl (by omega) ⟨by omega, by omega⟩ (by decide) rfl ?_
          refine go_goto (tgt := 4) dX10_couldBe_33 rfl ?_
          have e7 : (((orTo (setG (fun t => allTo (fun i => decide ((if kindV lt (fun t k => M 283 (8 * t + k)) t (gk i) = M 288 i then 1 else 0) = M 289 i)) c)) k) ||| 0 : Nat) : Int) = ((orTo (setG (fun t => allTo (fun i => decide ((if kindV lt (fun t k => M 283 (8 * t + k)) t (gk i) = M 288 i then 1 else 0) = M 289 i)) c)) (k + 1) : Nat) : Int) := by (rw [orTo_s, setG]; first | (rw [if_pos hbit]; done) | (rw [if_neg (by rw [hbit]; decide)]; done))
          rw [e7]
          exact ih (k + 1) (by omega) (by omega)
        · exact absurd c6 (by decide)

set_option maxHeartbeats 4000000 in
set_option maxRecDepth 100000 in
theorem ok_X10_couldBe {w T c : Nat} {lt gk : Nat → Nat} {M : inm} {Q : Int → Nat → rfm → inm → Prop} (hT : Tys10 M T lt) (hc : M 279 13 = (c : Int)) (h6 : c ≤ 6) (hg : ∀ i, i < c → M 287 i = (gk i : Int)) (hgi : ∀ i, i < c → M 289 i = 0 ∨ M 289 i = 1) (hQ : Q ((orTo (setG (fun t => allTo (fun i => decide ((if kindV lt (fun t k => M 283 (8 * t + k)) t (gk i) = M 288 i then 1 else 0) = M 289 i)) c)) T : Nat) : Int) 303 (PP w) M) : OkI yX10_couldBe cX10_couldBe 3 2 0 0 (some .int) [vR 279] 303 (PP w) M Q := by
  refine OkI.of (by decide +kernel) (by decide +kernel) (Nat.le_of_ble_eq_true rfl) ?_
  refine go_eq (lv' := [(0, vR 279)]) rfl rfl rfl rfl rfl ?_
  refine go_iconst dX10_couldBe_0 (by decide) ?_
  refine go_istore_n (lv' := [(1, vI 0), (0, vR 279)]) dX10_couldBe_1 rfl (by decide) rfl ?_
  refine go_iconst dX10_couldBe_2 (by decide) ?_
  refine go_istore_n (lv' := [(2, vI 0), (1, vI 0), (0, vR 279)]) dX10_couldBe_3 rfl (by decide) rfl ?_
  exact lp_X10_couldBe hT hc h6 hg hgi hQ (T + 1) 0 (by omega) (by omega)

