/-! ===== the reference: more that is read off it ===== -/
theorem pr_eq {a b c d : Int} (h1 : a = c) (h2 : b = d) : (a, b) = (c, d) := by rw [h1, h2]
theorem nextP_t {lt : Nat → Nat} {K : Nat → Nat → Int} {c : Nat → Int} {L t : Nat} {u : Int} (hb : begV lt K c L t = true) (h : L < lt t) (h2 : K t L = u) : nextP lt K c L u t = true := by
  unfold nextP kindV
  rw [hb, if_pos h, h2, decide_eq_true rfl]; rfl
theorem nextP_f1 {lt : Nat → Nat} {K : Nat → Nat → Int} {c : Nat → Int} {L t : Nat} {u : Int} (hb : begV lt K c L t = false) : nextP lt K c L u t = false := by
  unfold nextP
  rw [hb, Bool.and_false]
theorem nextP_f2 {lt : Nat → Nat} {K : Nat → Nat → Int} {c : Nat → Int} {L t : Nat} {u : Int} (hu : 0 ≤ u) (h : ¬ L < lt t) : nextP lt K c L u t = false := by
  unfold nextP kindV
  rw [if_neg h, decide_eq_false (by omega), Bool.false_and]
theorem nextP_f3 {lt : Nat → Nat} {K : Nat → Nat → Int} {c : Nat → Int} {L t : Nat} {u : Int} (h : L < lt t) (h2 : ¬ K t L = u) : nextP lt K c L u t = false := by
  unfold nextP kindV
  rw [if_pos h, decide_eq_false h2, Bool.false_and]
def sureG (p : Nat → Bool) (k : Nat) (s : Int × Int) : Int × Int := (if p k = true then (k : Int) else s.1, s.2 + (if p k = true then 1 else 0))
theorem sureG_in {p : Nat → Bool} : ∀ n, (-1 ≤ (fo (sureG p) n (-1, 0)).1 ∧ (fo (sureG p) n (-1, 0)).1 ≤ n) ∧ 0 ≤ (fo (sureG p) n (-1, 0)).2 ∧ (fo (sureG p) n (-1, 0)).2 ≤ n
  | 0 => ⟨⟨Int.le_refl _, by show (-1 : Int) ≤ ((0 : Nat) : Int); omega⟩, Int.le_refl _, Int.le_refl _⟩
  | n + 1 => by
    have ih := sureG_in (p := p) n
    have e : fo (sureG p) (n + 1) (-1, 0) = sureG p n (fo (sureG p) n (-1, 0)) := rfl
    rw [e]
    generalize fo (sureG p) n (-1, 0) = s at ih ⊢
    unfold sureG
    exact ⟨by show -1 ≤ (if p n = true then (n : Int) else _) ∧ (if p n = true then (n : Int) else _) ≤ _; split <;> omega, by show 0 ≤ _ + (if p n = true then (1 : Int) else 0) ∧ _ + (if p n = true then (1 : Int) else 0) ≤ _; split <;> omega⟩
def envG (g : Nat → Int) (e : Nat) (s : Int × Int) : Int × Int := (if s.1 < g e then g e else s.1, if g e < s.2 then g e else s.2)
theorem envG_in {g : Nat → Int} : ∀ n, (∀ e, e < n → 0 ≤ g e ∧ g e ≤ 20000) → (-1 ≤ (fo (envG g) n (-1, 1000000)).1 ∧ (fo (envG g) n (-1, 1000000)).1 ≤ 20000) ∧ 0 ≤ (fo (envG g) n (-1, 1000000)).2 ∧ (fo (envG g) n (-1, 1000000)).2 ≤ 1000000
  | 0, _ => ⟨⟨Int.le_refl _, by show (-1 : Int) ≤ 20000; omega⟩, by show (0 : Int) ≤ 1000000; omega, Int.le_refl _⟩
  | n + 1, h => by
    have ih := envG_in n (fun e he => h e (by omega))
    have h1 := h n (by omega)
    have e : fo (envG g) (n + 1) (-1, 1000000) = envG g n (fo (envG g) n (-1, 1000000)) := rfl
    rw [e]
    generalize fo (envG g) n (-1, 1000000) = s at ih ⊢
    unfold envG
    exact ⟨by show -1 ≤ (if _ < g n then g n else _) ∧ (if _ < g n then g n else _) ≤ _; split <;> omega, by show 0 ≤ (if g n < _ then g n else _) ∧ (if g n < _ then g n else _) ≤ _; split <;> omega⟩
/-- who weeps most: the first of the greatest -/
def argX (T : Nat → Int) (n : Nat) : Nat := fo (fun e b => if T b < T e then e else b) n 0
theorem argX_s {T : Nat → Int} {n : Nat} : argX T (n + 1) = if T (argX T n) < T n then n else argX T n := rfl
theorem argX_1 {T : Nat → Int} : argX T 1 = 0 := by
  rw [argX_s]
  split <;> rfl
theorem argX_lt {T : Nat → Int} : ∀ n, argX T n < max n 1
  | 0 => by show 0 < max 0 1; omega
  | n + 1 => by
    have ih := argX_lt (T := T) n
    rw [argX_s]
    split <;> omega
set_option maxHeartbeats 4000000 in
set_option maxRecDepth 100000 in
theorem lp_X10_nextOf {w T L : Nat} {lt : Nat → Nat} {M : inm} {u : Int} {Q : Int → Nat → rfm → inm → Prop} (hT : Tys10 M T lt) (hL : Lay10 M L) (hu : 0 ≤ u) (hQ : Q ((cntTo (nextP lt (fun t k => M 283 (8 * t + k)) (fun j => M 284 (j + 1)) L u) T : Nat) : Int) 303 (PP w) M) : ∀ (d k : Nat), T < k + d → k ≤ T → Go S0 yX10_nextOf cX10_nextOf 4 1 0 0 (some .int) 4 [(3, vI ((k : Nat) : Int)), (2, vI ((cntTo (nextP lt (fun t k => M 283 (8 * t + k)) (fun j => M 284 (j + 1)) L u) k : Nat) : Int)), (0, vR 279), (1, vI u)] [] 303 (PP w) M (fun v n P M => ∃ z, v = some (vI z) ∧ Q z n P M) := by
  have hT6 := hT.2.1
  have hL12 := hL.2.1
  intro d
  induction d with
  | zero => intro k h1 h2; exfalso; omega
  | succ d ih =>
    intro k h1 h2
    have hc := cntTo_le (p := (nextP lt (fun t k => M 283 (8 * t + k)) (fun j => M 284 (j + 1)) L u)) k
    have hl8 := fun h : k < T => (hT.2.2.1 k h).2
    refine go_iload_n 0 dX10_nextOf_4 rfl rfl ?_
    refine go_aload_n 2 dX10_nextOf_5 rfl rfl ?_
    refine gx_getI (v := ((T : Nat) : Int)) dX10_nextOf_6 lk10_164.get kd_279 (by omega) rfl hT.1 ?_
    refine go_icmp_ge (tgt := 69) dX10_nextOf_9 rfl (fun c1 => ?_) (fun c1 => ?_)
    · refine go_iload_n 1 dX10_nextOf_69 rfl rfl ?_
      refine go_iret dX10_nextOf_70 rfl rfl ⟨_, rfl, ?_⟩
      rw [show k = T by omega]
      exact hQ
    · refine go_iload_n 1 dX10_nextOf_12 rfl rfl ?_
      refine go_aload_n 2 dX10_nextOf_13 rfl rfl ?_
      refine go_iload_n 0 dX10_nextOf_14 rfl rfl ?_
      refine go_callVI (av := [vI ((k : Nat) : Int)]) (st := [vI ((cntTo (nextP lt (fun t k => M 283 (8 * t + k)) (fun j => M 284 (j + 1)) L u) k : Nat) : Int)]) (a := 279) (mc2 := 0) (ms2 := 0) dX10_nextOf_15 cw10_191 (by decide) rfl rfl (Nat.le_of_ble_eq_true rfl) rfl rfl kd_279 ⟨_, _, rfl⟩ (by decide) (by omega) (ok_X10_canBe (t := k) hT hL (by omega) (fun b2 => ?_) (fun b3 => ?_))
      · skip
        refine go_if_eq (tgt := 60) dX10_nextOf_18 rfl (fun c4 => ?_) (fun c4 => ?_)
        · exact absurd c4 (by decide)
        · refine go_aload_n 2 dX10_nextOf_21 rfl rfl ?_
          refine go_getR (r := 282) dX10_nextOf_22 lk10_16.get kd_279 (by omega) rfl (pp_279_6 w) ?_
          refine go_iload_n 0 dX10_nextOf_25 rfl rfl ?_
          refine gx_iaload (v := ((lt k : Nat) : Int)) k dX10_nextOf_26 kd_282 (by omega) ln_282 rfl (by omega) ((hT.2.2.1 k (by omega)).1) ?_
          refine go_aload_n 2 dX10_nextOf_27 rfl rfl ?_
          refine go_getR (r := 284) dX10_nextOf_28 lk10_22.get kd_279 (by omega) rfl (pp_279_8 w) ?_
          refine go_iconst dX10_nextOf_31 (by decide) ?_
          refine gx_iaload (v := ((L : Nat) : Int)) 0 dX10_nextOf_32 kd_284 (by omega) ln_284 (by omega) (by omega) hL.1 ?_
          refine go_icmp_le (tgt := 60) dX10_nextOf_33 rfl (fun c5 => ?_) (fun c5 => ?_)
          · refine go_iconst dX10_nextOf_60 (by decide) ?_
            refine gx_iadd (v := ((cntTo (nextP lt (fun t k => M 283 (8 * t + k)) (fun j => M 284 (j + 1)) L u) k : Nat) : Int)) dX10_nextOf_61 (by omega) ⟨by omega, by omega⟩ ?_
            refine go_istore_n (lv' := [(2, vI ((cntTo (nextP lt (fun t k => M 283 (8 * t + k)) (fun j => M 284 (j + 1)) L u) k : Nat) : Int)), (3, vI ((k : Nat) : Int)), (0, vR 279), (1, vI u)]) dX10_nextOf_62 rfl (by decide) rfl ?_
            refine gx_iinc (v := ((k + 1 : Nat) : Int)) (lv' := [(3, vI ((k + 1 : Nat) : Int)), (2, vI ((cntTo (nextP lt (fun t k => M 283 (8 * t + k)) (fun j => M 284 (j + 1)) L u) k : Nat) : Int)), (0, vR 279), (1, vI u)]) 1 dX10_nextOf_63 rfl (by omega) ⟨by omega, by omega⟩ (by decide) rfl ?_
            refine go_goto (tgt := 4) dX10_nextOf_66 rfl ?_
            have e6 : ((cntTo (nextP lt (fun t k => M 283 (8 * t + k)) (fun j => M 284 (j + 1)) L u) k : Nat) : Int) = ((cntTo (nextP lt (fun t k => M 283 (8 * t + k)) (fun j => M 284 (j + 1)) L u) (k + 1) : Nat) : Int) := by (rw [cntTo]; first | (rw [if_pos (nextP_t (by assumption) (by omega) (by assumption))]; done) | (rw [if_neg (by rw [nextP_f1 (by assumption)]; decide)]; rfl) | (rw [if_neg (by rw [nextP_f2 (by omega) (by omega)]; decide)]; rfl) | (rw [if_neg (by rw [nextP_f3 (by omega) (by assumption)]; decide)]; rfl))
            rw [e6]
            exact ih (k + 1) (by omega) (by omega)
          · refine go_aload_n 2 dX10_nextOf_36 rfl rfl ?_
            refine go_getR (r := 283) dX10_nextOf_37 lk10_19.get kd_279 (by omega) rfl (pp_279_7 w) ?_
            refine go_bipush dX10_nextOf_40 (by decide) (by decide) ?_
            refine go_iload_n 0 dX10_nextOf_42 rfl rfl ?_
            refine gx_imul (v := ((8 * k : Nat) : Int)) dX10_nextOf_43 (by omega) ⟨by omega, by omega⟩ ?_
            refine go_aload_n 2 dX10_nextOf_44 rfl rfl ?_
            refine go_getR (r := 284) dX10_nextOf_45 lk10_22.get kd_279 (by omega) rfl (pp_279_8 w) ?_
            refine go_iconst dX10_nextOf_48 (by decide) ?_
            refine gx_iaload (v := ((L : Nat) : Int)) 0 dX10_nextOf_49 kd_284 (by omega) ln_284 (by omega) (by omega) hL.1 ?_
            refine gx_iadd (v := (((8 * k) + L : Nat) : Int)) dX10_nextOf_50 (by omega) ⟨by omega, by omega⟩ ?_
            refine gx_iaload (v := (M 283 ((8 * k) + L))) ((8 * k) + L) dX10_nextOf_51 kd_283 (by omega) ln_283 rfl (by omega) rfl ?_
            refine go_iload_n 3 dX10_nextOf_52 rfl rfl ?_
            refine go_icmp_ne (tgt := 60) dX10_nextOf_53 rfl (fun c7 => ?_) (fun c7 => ?_)
            · refine go_iconst dX10_nextOf_60 (by decide) ?_
              refine gx_iadd (v := ((cntTo (nextP lt (fun t k => M 283 (8 * t + k)) (fun j => M 284 (j + 1)) L u) k : Nat) : Int)) dX10_nextOf_61 (by omega) ⟨by omega, by omega⟩ ?_
              refine go_istore_n (lv' := [(2, vI ((cntTo (nextP lt (fun t k => M 283 (8 * t + k)) (fun j => M 284 (j + 1)) L u) k : Nat) : Int)), (3, vI ((k : Nat) : Int)), (0, vR 279), (1, vI u)]) dX10_nextOf_62 rfl (by decide) rfl ?_
              refine gx_iinc (v := ((k + 1 : Nat) : Int)) (lv' := [(3, vI ((k + 1 : Nat) : Int)), (2, vI ((cntTo (nextP lt (fun t k => M 283 (8 * t + k)) (fun j => M 284 (j + 1)) L u) k : Nat) : Int)), (0, vR 279), (1, vI u)]) 1 dX10_nextOf_63 rfl (by omega) ⟨by omega, by omega⟩ (by decide) rfl ?_
              refine go_goto (tgt := 4) dX10_nextOf_66 rfl ?_
              have e8 : ((cntTo (nextP lt (fun t k => M 283 (8 * t + k)) (fun j => M 284 (j + 1)) L u) k : Nat) : Int) = ((cntTo (nextP lt (fun t k => M 283 (8 * t + k)) (fun j => M 284 (j + 1)) L u) (k + 1) : Nat) : Int) := by (rw [cntTo]; first | (rw [if_pos (nextP_t (by assumption) (by omega) (by assumption))]; done) | (rw [if_neg (by rw [nextP_f1 (by assumption)]; decide)]; rfl) | (rw [if_neg (by rw [nextP_f2 (by omega) (by omega)]; decide)]; rfl) | (rw [if_neg (by rw [nextP_f3 (by omega) (by assumption)]; decide)]; rfl))
              rw [e8]
              exact ih (k + 1) (by omega) (by omega)
            · refine go_iconst dX10_nextOf_56 (by decide) ?_
              refine go_goto (tgt := 61) dX10_nextOf_57 rfl ?_
              refine gx_iadd (v := ((cntTo (nextP lt (fun t k => M 283 (8 * t + k)) (fun j => M 284 (j + 1)) L u) k + 1 : Nat) : Int)) dX10_nextOf_61 (by omega) ⟨by omega, by omega⟩ ?_
              refine go_istore_n (lv' := [(2, vI ((cntTo (nextP lt (fun t k => M 283 (8 * t + k)) (fun j => M 284 (j + 1)) L u) k + 1 : Nat) : Int)), (3, vI ((k : Nat) : Int)), (0, vR 279), (1, vI u)]) dX10_nextOf_62 rfl (by decide) rfl ?_
              refine gx_iinc (v := ((k + 1 : Nat) : Int)) (lv' := [(3, vI ((k + 1 : Nat) : Int)), (2, vI ((cntTo (nextP lt (fun t k => M 283 (8 * t + k)) (fun j => M 284 (j + 1)) L u) k + 1 : Nat) : Int)), (0, vR 279), (1, vI u)]) 1 dX10_nextOf_63 rfl (by omega) ⟨by omega, by omega⟩ (by decide) rfl ?_
              refine go_goto (tgt := 4) dX10_nextOf_66 rfl ?_
              have e9 : ((cntTo (nextP lt (fun t k => M 283 (8 * t + k)) (fun j => M 284 (j + 1)) L u) k + 1 : Nat) : Int) = ((cntTo (nextP lt (fun t k => M 283 (8 * t + k)) (fun j => M 284 (j + 1)) L u) (k + 1) : Nat) : Int) := by (rw [cntTo]; first | (rw [if_pos (nextP_t (by assumption) (by omega) (by assumption))]; done) | (rw [if_neg (by rw [nextP_f1 (by assumption)]; decide)]; rfl) | (rw [if_neg (by rw [nextP_f2 (by omega) (by omega)]; decide)]; rfl) | (rw [if_neg (by rw [nextP_f3 (by omega) (by assumption)]; decide)]; rfl))
              rw [e9]
              exact ih (k + 1) (by omega) (by omega)
      · skip
        refine go_if_eq (tgt := 60) dX10_nextOf_18 rfl (fun c10 => ?_) (fun c10 => ?_)
        · refine go_iconst dX10_nextOf_60 (by decide) ?_
          refine gx_iadd (v := ((cntTo (nextP lt (fun t k => M 283 (8 * t + k)) (fun j => M 284 (j + 1)) L u) k : Nat) : Int)) dX10_nextOf_61 (by omega) ⟨by omega, by omega⟩ ?_
          refine go_istore_n (lv' := [(2, vI ((cntTo (nextP lt (fun t k => M 283 (8 * t + k)) (fun j => M 284 (j + 1)) L u) k : Nat) : Int)), (3, vI ((k : Nat) : Int)), (0, vR 279), (1, vI u)]) dX10_nextOf_62 rfl (by decide) rfl ?_
          refine gx_iinc (v := ((k + 1 : Nat) : Int)) (lv' := [(3, vI ((k + 1 : Nat) : Int)), (2, vI ((cntTo (nextP lt (fun t k => M 283 (8 * t + k)) (fun j => M 284 (j + 1)) L u) k : Nat) : Int)), (0, vR 279), (1, vI u)]) 1 dX10_nextOf_63 rfl (by omega) ⟨by omega, by omega⟩ (by decide) rfl ?_
          refine go_goto (tgt := 4) dX10_nextOf_66 rfl ?_
          have e11 : ((cntTo (nextP lt (fun t k => M 283 (8 * t + k)) (fun j => M 284 (j + 1)) L u) k : Nat) : Int) = ((cntTo (nextP lt (fun t k => M 283 (8 * t + k)) (fun j => M 284 (j + 1)) L u) (k + 1) : Nat) : Int) := by (rw [cntTo]; first | (rw [if_pos (nextP_t (by assumption) (by omega) (by assumption))]; done) | (rw [if_neg (by rw [nextP_f1 (by assumption)]; decide)]; rfl) | (rw [if_neg (by rw [nextP_f2 (by omega) (by omega)]; decide)]; rfl) | (rw [if_neg (by rw [nextP_f3 (by omega) (by assumption)]; decide)]; rfl))
          rw [e11]
          exact ih (k + 1) (by omega) (by omega)
        · exact absurd c10 (by decide)

set_option maxHeartbeats 4000000 in
set_option maxRecDepth 100000 in
theorem ok_X10_nextOf {w T L : Nat} {lt : Nat → Nat} {M : inm} {u : Int} {Q : Int → Nat → rfm → inm → Prop} (hT : Tys10 M T lt) (hL : Lay10 M L) (hu : 0 ≤ u) (hQ : Q ((cntTo (nextP lt (fun t k => M 283 (8 * t + k)) (fun j => M 284 (j + 1)) L u) T : Nat) : Int) 303 (PP w) M) : OkI yX10_nextOf cX10_nextOf 4 1 0 0 (some .int) [vR 279, vI u] 303 (PP w) M Q := by
  refine OkI.of (by decide +kernel) (by decide +kernel) (Nat.le_of_ble_eq_true rfl) ?_
  refine go_eq (lv' := [(0, vR 279), (1, vI u)]) rfl rfl rfl rfl rfl ?_
  refine go_iconst dX10_nextOf_0 (by decide) ?_
  refine go_istore_n (lv' := [(2, vI 0), (0, vR 279), (1, vI u)]) dX10_nextOf_1 rfl (by decide) rfl ?_
  refine go_iconst dX10_nextOf_2 (by decide) ?_
  refine go_istore_n (lv' := [(3, vI 0), (2, vI 0), (0, vR 279), (1, vI u)]) dX10_nextOf_3 rfl (by decide) rfl ?_
  exact lp_X10_nextOf hT hL hu hQ (T + 1) 0 (by omega) (by omega)

set_option maxHeartbeats 4000000 in
set_option maxRecDepth 100000 in
theorem lp_X10_sure {w T L : Nat} {lt : Nat → Nat} {M : inm} {Q : Int → Nat → rfm → inm → Prop} (hT : Tys10 M T lt) (hL : Lay10 M L) (hQ : Q (if (fo (sureG (fun u => decide (0 < cntTo (nextP lt (fun t k => M 283 (8 * t + k)) (fun j => M 284 (j + 1)) L (u : Int)) T))) 5 (-1, 0)).2 = 1 then (fo (sureG (fun u => decide (0 < cntTo (nextP lt (fun t k => M 283 (8 * t + k)) (fun j => M 284 (j + 1)) L (u : Int)) T))) 5 (-1, 0)).1 else -1) 303 (PP w) M) : ∀ (d k : Nat), 5 < k + d → k ≤ 5 → Go S0 yX10_sure cX10_sure 4 2 0 0 (some .int) 6 [(3, vI ((k : Nat) : Int)), (1, vI ((fo (sureG (fun u => decide (0 < cntTo (nextP lt (fun t k => M 283 (8 * t + k)) (fun j => M 284 (j + 1)) L (u : Int)) T))) k (-1, 0)).1)), (2, vI ((fo (sureG (fun u => decide (0 < cntTo (nextP lt (fun t k => M 283 (8 * t + k)) (fun j => M 284 (j + 1)) L (u : Int)) T))) k (-1, 0)).2)), (0, vR 279)] [] 303 (PP w) M (fun v n P M => ∃ z, v = some (vI z) ∧ Q z n P M) := by
  intro d
  induction d with
  | zero => intro k h1 h2; exfalso; omega
  | succ d ih =>
    intro k h1 h2
    have hsg := sureG_in (p := (fun u => decide (0 < cntTo (nextP lt (fun t k => M 283 (8 * t + k)) (fun j => M 284 (j + 1)) L (u : Int)) T))) k
    refine go_iload_n 0 dX10_sure_6 rfl rfl ?_
    refine go_iconst dX10_sure_7 (by decide) ?_
    refine go_icmp_gt (tgt := 47) dX10_sure_8 rfl (fun c1 => ?_) (fun c1 => ?_)
    · refine go_iload_n 2 dX10_sure_47 rfl rfl ?_
      refine go_iconst dX10_sure_48 (by decide) ?_
      refine go_icmp_ne (tgt := 56) dX10_sure_49 rfl (fun c2 => ?_) (fun c2 => ?_)
      · refine go_iconst dX10_sure_56 (by decide) ?_
        refine go_iret dX10_sure_57 rfl rfl ⟨_, rfl, ?_⟩
        have hk5 : k = 5 := by omega
        subst hk5
        first | (rw [if_pos (by assumption)] at hQ; exact hQ) | (rw [if_neg (by assumption)] at hQ; exact hQ)
      · refine go_iload_n 1 dX10_sure_52 rfl rfl ?_
        refine go_goto (tgt := 57) dX10_sure_53 rfl ?_
        refine go_iret dX10_sure_57 rfl rfl ⟨_, rfl, ?_⟩
        have hk5 : k = 5 := by omega
        subst hk5
        first | (rw [if_pos (by assumption)] at hQ; exact hQ) | (rw [if_neg (by assumption)] at hQ; exact hQ)
    · refine go_aload_n 3 dX10_sure_11 rfl rfl ?_
      refine go_iload_n 0 dX10_sure_12 rfl rfl ?_
      refine go_callVI (av := [vI ((k : Nat) : Int)]) (st := []) (a := 279) (mc2 := 0) (ms2 := 0) dX10_sure_13 cw10_194 (by decide) rfl rfl (Nat.le_of_ble_eq_true rfl) rfl rfl kd_279 ⟨_, _, rfl⟩ (by decide) (by omega) (ok_X10_nextOf hT hL (by omega) ?_)
      refine go_if_le (tgt := 23) dX10_sure_16 rfl (fun c3 => ?_) (fun c3 => ?_)
      · refine go_iload_n 1 dX10_sure_23 rfl rfl ?_
        refine go_istore_n (lv' := [(1, vI ((fo (sureG (fun u => decide (0 < cntTo (nextP lt (fun t k => M 283 (8 * t + k)) (fun j => M 284 (j + 1)) L (u : Int)) T))) k (-1, 0)).1)), (3, vI ((k : Nat) : Int)), (2, vI ((fo (sureG (fun u => decide (0 < cntTo (nextP lt (fun t k => M 283 (8 * t + k)) (fun j => M 284 (j + 1)) L (u : Int)) T))) k (-1, 0)).2)), (0, vR 279)]) dX10_sure_24 rfl (by decide) rfl ?_
        refine go_iload_n 2 dX10_sure_25 rfl rfl ?_
        refine go_aload_n 3 dX10_sure_26 rfl rfl ?_
        refine go_iload_n 1 dX10_sure_27 rfl rfl ?_
        refine go_callVI (av := [vI ((k : Nat) : Int)]) (st := [vI ((fo (sureG (fun u => decide (0 < cntTo (nextP lt (fun t k => M 283 (8 * t + k)) (fun j => M 284 (j + 1)) L (u : Int)) T))) k (-1, 0)).2)]) (a := 279) (mc2 := 0) (ms2 := 0) dX10_sure_28 cw10_194 (by decide) rfl rfl (Nat.le_of_ble_eq_true rfl) rfl rfl kd_279 ⟨_, _, rfl⟩ (by decide) (by omega) (ok_X10_nextOf hT hL (by omega) ?_)
        refine go_if_le (tgt := 38) dX10_sure_31 rfl (fun c4 => ?_) (fun c4 => ?_)
        · refine go_iconst dX10_sure_38 (by decide) ?_
          refine gx_iadd (v := ((fo (sureG (fun u => decide (0 < cntTo (nextP lt (fun t k => M 283 (8 * t + k)) (fun j => M 284 (j + 1)) L (u : Int)) T))) k (-1, 0)).2 + 0)) dX10_sure_39 rfl ⟨by omega, by omega⟩ ?_
          refine go_istore_n (lv' := [(2, vI ((fo (sureG (fun u => decide (0 < cntTo (nextP lt (fun t k => M 283 (8 * t + k)) (fun j => M 284 (j + 1)) L (u : Int)) T))) k (-1, 0)).2 + 0)), (1, vI ((fo (sureG (fun u => decide (0 < cntTo (nextP lt (fun t k => M 283 (8 * t + k)) (fun j => M 284 (j + 1)) L (u : Int)) T))) k (-1, 0)).1)), (3, vI ((k : Nat) : Int)), (0, vR 279)]) dX10_sure_40 rfl (by decide) rfl ?_
          refine gx_iinc (v := ((k + 1 : Nat) : Int)) (lv' := [(3, vI ((k + 1 : Nat) : Int)), (2, vI ((fo (sureG (fun u => decide (0 < cntTo (nextP lt (fun t k => M 283 (8 * t + k)) (fun j => M 284 (j + 1)) L (u : Int)) T))) k (-1, 0)).2 + 0)), (1, vI ((fo (sureG (fun u => decide (0 < cntTo (nextP lt (fun t k => M 283 (8 * t + k)) (fun j => M 284 (j + 1)) L (u : Int)) T))) k (-1, 0)).1)), (0, vR 279)]) 2 dX10_sure_41 rfl (by omega) ⟨by omega, by omega⟩ (by decide) rfl ?_
          refine go_goto (tgt := 6) dX10_sure_44 rfl ?_
          refine go_lv [0, 2, 1, 3] rfl ?_
          have e5 : (fo (sureG (fun u => decide (0 < cntTo (nextP lt (fun t k => M 283 (8 * t + k)) (fun j => M 284 (j + 1)) L (u : Int)) T))) k (-1, 0)).1 = (fo (sureG (fun u => decide (0 < cntTo (nextP lt (fun t k => M 283 (8 * t + k)) (fun j => M 284 (j + 1)) L (u : Int)) T))) (k + 1) (-1, 0)).1 := by (rw [fo, sureG]; first | (simp only [if_pos (show (fun u => decide (0 < cntTo (nextP lt (fun t k => M 283 (8 * t + k)) (fun j => M 284 (j + 1)) L (u : Int)) T)) k = true from decide_eq_true (by omega))]; done) | (simp only [if_neg (show ¬ (fun u => decide (0 < cntTo (nextP lt (fun t k => M 283 (8 * t + k)) (fun j => M 284 (j + 1)) L (u : Int)) T)) k = true by rw [decide_eq_true_eq]; omega)]; done) | (simp only [if_neg (show ¬ (fun u => decide (0 < cntTo (nextP lt (fun t k => M 283 (8 * t + k)) (fun j => M 284 (j + 1)) L (u : Int)) T)) k = true by rw [decide_eq_true_eq]; omega)]; omega) | (exfalso; omega))
          rw [e5]
          have e6 : ((fo (sureG (fun u => decide (0 < cntTo (nextP lt (fun t k => M 283 (8 * t + k)) (fun j => M 284 (j + 1)) L (u : Int)) T))) k (-1, 0)).2 + 0) = (fo (sureG (fun u => decide (0 < cntTo (nextP lt (fun t k => M 283 (8 * t + k)) (fun j => M 284 (j + 1)) L (u : Int)) T))) (k + 1) (-1, 0)).2 := by (rw [fo, sureG]; first | (simp only [if_pos (show (fun u => decide (0 < cntTo (nextP lt (fun t k => M 283 (8 * t + k)) (fun j => M 284 (j + 1)) L (u : Int)) T)) k = true from decide_eq_true (by omega))]; done) | (simp only [if_neg (show ¬ (fun u => decide (0 < cntTo (nextP lt (fun t k => M 283 (8 * t + k)) (fun j => M 284 (j + 1)) L (u : Int)) T)) k = true by rw [decide_eq_true_eq]; omega)]; done) | (simp only [if_neg (show ¬ (fun u => decide (0 < cntTo (nextP lt (fun t k => M 283 (8 * t + k)) (fun j => M 284 (j + 1)) L (u : Int)) T)) k = true by rw [decide_eq_true_eq]; omega)]; omega) | (exfalso; omega))
          rw [e6]
          exact ih (k + 1) (by omega) (by omega)
        · refine go_iconst dX10_sure_34 (by decide) ?_
          refine go_goto (tgt := 39) dX10_sure_35 rfl ?_
          refine gx_iadd (v := ((fo (sureG (fun u => decide (0 < cntTo (nextP lt (fun t k => M 283 (8 * t + k)) (fun j => M 284 (j + 1)) L (u : Int)) T))) k (-1, 0)).2 + 1)) dX10_sure_39 rfl ⟨by omega, by omega⟩ ?_
          refine go_istore_n (lv' := [(2, vI ((fo (sureG (fun u => decide (0 < cntTo (nextP lt (fun t k => M 283 (8 * t + k)) (fun j => M 284 (j + 1)) L (u : Int)) T))) k (-1, 0)).2 + 1)), (1, vI ((fo (sureG (fun u => decide (0 < cntTo (nextP lt (fun t k => M 283 (8 * t + k)) (fun j => M 284 (j + 1)) L (u : Int)) T))) k (-1, 0)).1)), (3, vI ((k : Nat) : Int)), (0, vR 279)]) dX10_sure_40 rfl (by decide) rfl ?_
          refine gx_iinc (v := ((k + 1 : Nat) : Int)) (lv' := [(3, vI ((k + 1 : Nat) : Int)), (2, vI ((fo (sureG (fun u => decide (0 < cntTo (nextP lt (fun t k => M 283 (8 * t + k)) (fun j => M 284 (j + 1)) L (u : Int)) T))) k (-1, 0)).2 + 1)), (1, vI ((fo (sureG (fun u => decide (0 < cntTo (nextP lt (fun t k => M 283 (8 * t + k)) (fun j => M 284 (j + 1)) L (u : Int)) T))) k (-1, 0)).1)), (0, vR 279)]) 2 dX10_sure_41 rfl (by omega) ⟨by omega, by omega⟩ (by decide) rfl ?_
          refine go_goto (tgt := 6) dX10_sure_44 rfl ?_
          refine go_lv [0, 2, 1, 3] rfl ?_
          have e7 : (fo (sureG (fun u => decide (0 < cntTo (nextP lt (fun t k => M 283 (8 * t + k)) (fun j => M 284 (j + 1)) L (u : Int)) T))) k (-1, 0)).1 = (fo (sureG (fun u => decide (0 < cntTo (nextP lt (fun t k => M 283 (8 * t + k)) (fun j => M 284 (j + 1)) L (u : Int)) T))) (k + 1) (-1, 0)).1 := by (rw [fo, sureG]; first | (simp only [if_pos (show (fun u => decide (0 < cntTo (nextP lt (fun t k => M 283 (8 * t + k)) (fun j => M 284 (j + 1)) L (u : Int)) T)) k = true from decide_eq_true (by omega))]; done) | (simp only [if_neg (show ¬ (fun u => decide (0 < cntTo (nextP lt (fun t k => M 283 (8 * t + k)) (fun j => M 284 (j + 1)) L (u : Int)) T)) k = true by rw [decide_eq_true_eq]; omega)]; done) | (simp only [if_neg (show ¬ (fun u => decide (0 < cntTo (nextP lt (fun t k => M 283 (8 * t + k)) (fun j => M 284 (j + 1)) L (u : Int)) T)) k = true by rw [decide_eq_true_eq]; omega)]; omega) | (exfalso; omega))
          rw [e7]
          have e8 : ((fo (sureG (fun u => decide (0 < cntTo (nextP lt (fun t k => M 283 (8 * t + k)) (fun j => M 284 (j + 1)) L (u : Int)) T))) k (-1, 0)).2 + 1) = (fo (sureG (fun u => decide (0 < cntTo (nextP lt (fun t k => M 283 (8 * t + k)) (fun j => M 284 (j + 1)) L (u : Int)) T))) (k + 1) (-1, 0)).2 := by (rw [fo, sureG]; first | (simp only [if_pos (show (fun u => decide (0 < cntTo (nextP lt (fun t k => M 283 (8 * t + k)) (fun j => M 284 (j + 1)) L (u : Int)) T)) k = true from decide_eq_true (by omega))]; done) | (simp only [if_neg (show ¬ (fun u => decide (0 < cntTo (nextP lt (fun t k => M 283 (8 * t + k)) (fun j => M 284 (j + 1)) L (u : Int)) T)) k = true by rw [decide_eq_true_eq]; omega)]; done) | (simp only [if_neg (show ¬ (fun u => decide (0 < cntTo (nextP lt (fun t k => M 283 (8 * t + k)) (fun j => M 284 (j + 1)) L (u : Int)) T)) k = true by rw [decide_eq_true_eq]; omega)]; omega) | (exfalso; omega))
          rw [e8]
          exact ih (k + 1) (by omega) (by omega)
      · refine go_iload_n 0 dX10_sure_19 rfl rfl ?_
        refine go_goto (tgt := 24) dX10_sure_20 rfl ?_
        refine go_istore_n (lv' := [(1, vI ((k : Nat) : Int)), (3, vI ((k : Nat) : Int)), (2, vI ((fo (sureG (fun u => decide (0 < cntTo (nextP lt (fun t k => M 283 (8 * t + k)) (fun j => M 284 (j + 1)) L (u : Int)) T))) k (-1, 0)).2)), (0, vR 279)]) dX10_sure_24 rfl (by decide) rfl ?_
        refine go_iload_n 2 dX10_sure_25 rfl rfl ?_
        refine go_aload_n 3 dX10_sure_26 rfl rfl ?_
        refine go_iload_n 1 dX10_sure_27 rfl rfl ?_
        refine go_callVI (av := [vI ((k : Nat) : Int)]) (st := [vI ((fo (sureG (fun u => decide (0 < cntTo (nextP lt (fun t k => M 283 (8 * t + k)) (fun j => M 284 (j + 1)) L (u : Int)) T))) k (-1, 0)).2)]) (a := 279) (mc2 := 0) (ms2 := 0) dX10_sure_28 cw10_194 (by decide) rfl rfl (Nat.le_of_ble_eq_true rfl) rfl rfl kd_279 ⟨_, _, rfl⟩ (by decide) (by omega) (ok_X10_nextOf hT hL (by omega) ?_)
        refine go_if_le (tgt := 38) dX10_sure_31 rfl (fun c9 => ?_) (fun c9 => ?_)
        · refine go_iconst dX10_sure_38 (by decide) ?_
          refine gx_iadd (v := ((fo (sureG (fun u => decide (0 < cntTo (nextP lt (fun t k => M 283 (8 * t + k)) (fun j => M 284 (j + 1)) L (u : Int)) T))) k (-1, 0)).2 + 0)) dX10_sure_39 rfl ⟨by omega, by omega⟩ ?_
          refine go_istore_n (lv' := [(2, vI ((fo (sureG (fun u => decide (0 < cntTo (nextP lt (fun t k => M 283 (8 * t + k)) (fun j => M 284 (j + 1)) L (u : Int)) T))) k (-1, 0)).2 + 0)), (1, vI ((k : Nat) : Int)), (3, vI ((k : Nat) : Int)), (0, vR 279)]) dX10_sure_40 rfl (by decide) rfl ?_
          refine gx_iinc (v := ((k + 1 : Nat) : Int)) (lv' := [(3, vI ((k + 1 : Nat) : Int)), (2, vI ((fo (sureG (fun u => decide (0 < cntTo (nextP lt (fun t k => M 283 (8 * t + k)) (fun j => M 284 (j + 1)) L (u : Int)) T))) k (-1, 0)).2 + 0)), (1, vI ((k : Nat) : Int)), (0, vR 279)]) 2 dX10_sure_41 rfl (by omega) ⟨by omega, by omega⟩ (by decide) rfl ?_
          refine go_goto (tgt := 6) dX10_sure_44 rfl ?_
          refine go_lv [0, 2, 1, 3] rfl ?_
          have e10 : ((k : Nat) : Int) = (fo (sureG (fun u => decide (0 < cntTo (nextP lt (fun t k => M 283 (8 * t + k)) (fun j => M 284 (j + 1)) L (u : Int)) T))) (k + 1) (-1, 0)).1 := by (rw [fo, sureG]; first | (simp only [if_pos (show (fun u => decide (0 < cntTo (nextP lt (fun t k => M 283 (8 * t + k)) (fun j => M 284 (j + 1)) L (u : Int)) T)) k = true from decide_eq_true (by omega))]; done) | (simp only [if_neg (show ¬ (fun u => decide (0 < cntTo (nextP lt (fun t k => M 283 (8 * t + k)) (fun j => M 284 (j + 1)) L (u : Int)) T)) k = true by rw [decide_eq_true_eq]; omega)]; done) | (simp only [if_neg (show ¬ (fun u => decide (0 < cntTo (nextP lt (fun t k => M 283 (8 * t + k)) (fun j => M 284 (j + 1)) L (u : Int)) T)) k = true by rw [decide_eq_true_eq]; omega)]; omega) | (exfalso; omega))
          rw [e10]
          have e11 : ((fo (sureG (fun u => decide (0 < cntTo (nextP lt (fun t k => M 283 (8 * t + k)) (fun j => M 284 (j + 1)) L (u : Int)) T))) k (-1, 0)).2 + 0) = (fo (sureG (fun u => decide (0 < cntTo (nextP lt (fun t k => M 283 (8 * t + k)) (fun j => M 284 (j + 1)) L (u : Int)) T))) (k + 1) (-1, 0)).2 := by (rw [fo, sureG]; first | (simp only [if_pos (show (fun u => decide (0 < cntTo (nextP lt (fun t k => M 283 (8 * t + k)) (fun j => M 284 (j + 1)) L (u : Int)) T)) k = true from decide_eq_true (by omega))]; done) | (simp only [if_neg (show ¬ (fun u => decide (0 < cntTo (nextP lt (fun t k => M 283 (8 * t + k)) (fun j => M 284 (j + 1)) L (u : Int)) T)) k = true by rw [decide_eq_true_eq]; omega)]; done) | (simp only [if_neg (show ¬ (fun u => decide (0 < cntTo (nextP lt (fun t k => M 283 (8 * t + k)) (fun j => M 284 (j + 1)) L (u : Int)) T)) k = true by rw [decide_eq_true_eq]; omega)]; omega) | (exfalso; omega))
          rw [e11]
          exact ih (k + 1) (by omega) (by omega)
        · refine go_iconst dX10_sure_34 (by decide) ?_
          refine go_goto (tgt := 39) dX10_sure_35 rfl ?_
          refine gx_iadd (v := ((fo (sureG (fun u => decide (0 < cntTo (nextP lt (fun t k => M 283 (8 * t + k)) (fun j => M 284 (j + 1)) L (u : Int)) T))) k (-1, 0)).2 + 1)) dX10_sure_39 rfl ⟨by omega, by omega⟩ ?_
          refine go_istore_n (lv' := [(2, vI ((fo (sureG (fun u => decide (0 < cntTo (nextP lt (fun t k => M 283 (8 * t + k)) (fun j => M 284 (j + 1)) L (u : Int)) T))) k (-1, 0)).2 + 1)), (1, vI ((k : Nat) : Int)), (3, vI ((k : Nat) : Int)), (0, vR 279)]) dX10_sure_40 rfl (by decide) rfl ?_
          refine gx_iinc (v := ((k + 1 : Nat) : Int)) (lv' := [(3, vI ((k + 1 : Nat) : Int)), (2, vI ((fo (sureG (fun u => decide (0 < cntTo (nextP lt (fun t k => M 283 (8 * t + k)) (fun j => M 284 (j + 1)) L (u : Int)) T))) k (-1, 0)).2 + 1)), (1, vI ((k : Nat) : Int)), (0, vR 279)]) 2 dX10_sure_41 rfl (by omega) ⟨by omega, by omega⟩ (by decide) rfl ?_
          refine go_goto (tgt := 6) dX10_sure_44 rfl ?_
          refine go_lv [0, 2, 1, 3] rfl ?_
          have e12 : ((k : Nat) : Int) = (fo (sureG (fun u => decide (0 < cntTo (nextP lt (fun t k => M 283 (8 * t + k)) (fun j => M 284 (j + 1)) L (u : Int)) T))) (k + 1) (-1, 0)).1 := by (rw [fo, sureG]; first | (simp only [if_pos (show (fun u => decide (0 < cntTo (nextP lt (fun t k => M 283 (8 * t + k)) (fun j => M 284 (j + 1)) L (u : Int)) T)) k = true from decide_eq_true (by omega))]; done) | (simp only [if_neg (show ¬ (fun u => decide (0 < cntTo (nextP lt (fun t k => M 283 (8 * t + k)) (fun j => M 284 (j + 1)) L (u : Int)) T)) k = true by rw [decide_eq_true_eq]; omega)]; done) | (simp only [if_neg (show ¬ (fun u => decide (0 < cntTo (nextP lt (fun t k => M 283 (8 * t + k)) (fun j => M 284 (j + 1)) L (u : Int)) T)) k = true by rw [decide_eq_true_eq]; omega)]; omega) | (exfalso; omega))
          rw [e12]
          have e13 : ((fo (sureG (fun u => decide (0 < cntTo (nextP lt (fun t k => M 283 (8 * t + k)) (fun j => M 284 (j + 1)) L (u : Int)) T))) k (-1, 0)).2 + 1) = (fo (sureG (fun u => decide (0 < cntTo (nextP lt (fun t k => M 283 (8 * t + k)) (fun j => M 284 (j + 1)) L (u : Int)) T))) (k + 1) (-1, 0)).2 := by (rw [fo, sureG]; first | (simp only [if_pos (show (fun u => decide (0 < cntTo (nextP lt (fun t k => M 283 (8 * t + k)) (fun j => M 284 (j + 1)) L (u : Int)) T)) k = true from decide_eq_true (by omega))]; done) | (simp only [if_neg (show ¬ (fun u => decide (0 < cntTo (nextP lt (fun t k => M 283 (8 * t + k)) (fun j => M 284 (j + 1)) L (u : Int)) T)) k = true by rw [decide_eq_true_eq]; omega)]; done) | (simp only [if_neg (show ¬ (fun u => decide (0 < cntTo (nextP lt (fun t k => M 283 (8 * t + k)) (fun j => M 284 (j + 1)) L (u : Int)) T)) k = true by rw [decide_eq_true_eq]; omega)]; omega) | (exfalso; omega))
          rw [e13]
          exact ih (k + 1) (by omega) (by omega)

set_option maxHeartbeats 4000000 in
set_option maxRecDepth 100000 in
theorem ok_X10_sure {w T L : Nat} {lt : Nat → Nat} {M : inm} {Q : Int → Nat → rfm → inm → Prop} (hT : Tys10 M T lt) (hL : Lay10 M L) (hQ : Q (if (fo (sureG (fun u => decide (0 < cntTo (nextP lt (fun t k => M 283 (8 * t + k)) (fun j => M 284 (j + 1)) L (u : Int)) T))) 5 (-1, 0)).2 = 1 then (fo (sureG (fun u => decide (0 < cntTo (nextP lt (fun t k => M 283 (8 * t + k)) (fun j => M 284 (j + 1)) L (u : Int)) T))) 5 (-1, 0)).1 else -1) 303 (PP w) M) : OkI yX10_sure cX10_sure 4 2 0 0 (some .int) [vR 279] 303 (PP w) M Q := by
  refine OkI.of (by decide +kernel) (by decide +kernel) (Nat.le_of_ble_eq_true rfl) ?_
  refine go_eq (lv' := [(0, vR 279)]) rfl rfl rfl rfl rfl ?_
  refine go_iconst dX10_sure_0 (by decide) ?_
  refine go_istore_n (lv' := [(1, vI (-1)), (0, vR 279)]) dX10_sure_1 rfl (by decide) rfl ?_
  refine go_iconst dX10_sure_2 (by decide) ?_
  refine go_istore_n (lv' := [(2, vI 0), (1, vI (-1)), (0, vR 279)]) dX10_sure_3 rfl (by decide) rfl ?_
  refine go_iconst dX10_sure_4 (by decide) ?_
  refine go_istore_n (lv' := [(3, vI 0), (2, vI 0), (1, vI (-1)), (0, vR 279)]) dX10_sure_5 rfl (by decide) rfl ?_
  refine go_lv [0, 2, 1, 3] rfl ?_
  exact lp_X10_sure hT hL hQ 6 0 (by omega) (by omega)

set_option maxHeartbeats 4000000 in
set_option maxRecDepth 100000 in
theorem lp_X10_law {w L : Nat} {M : inm} {Q : Int → Nat → rfm → inm → Prop} (hL : Lay10 M L) (hQ : Q ((orTo (lawG (fun j => M 284 (j + 1))) (max L 1) : Nat) : Int) 303 (PP w) M) : ∀ (d k : Nat), (max L 1) < k + d → 1 ≤ k → k ≤ (max L 1) → Go S0 yX10_law cX10_law 3 0 0 0 (some .int) 4 [(2, vI ((k : Nat) : Int)), (1, vI ((orTo (lawG (fun j => M 284 (j + 1))) k : Nat) : Int)), (0, vR 279)] [] 303 (PP w) M (fun v n P M => ∃ z, v = some (vI z) ∧ Q z n P M) := by
  have hL12 := hL.2.1
  intro d
  induction d with
  | zero => intro k h1 h2 h3; exfalso; omega
  | succ d ih =>
    intro k h1 h2 h3
    refine go_iload_n 0 dX10_law_4 rfl rfl ?_
    refine go_aload_n 2 dX10_law_5 rfl rfl ?_
    refine go_getR (r := 284) dX10_law_6 lk10_22.get kd_279 (by omega) rfl (pp_279_8 w) ?_
    refine go_iconst dX10_law_9 (by decide) ?_
    refine gx_iaload (v := ((L : Nat) : Int)) 0 dX10_law_10 kd_284 (by omega) ln_284 (by omega) (by omega) hL.1 ?_
    refine go_icmp_ge (tgt := 46) dX10_law_11 rfl (fun c1 => ?_) (fun c1 => ?_)
    · refine go_iload_n 1 dX10_law_46 rfl rfl ?_
      refine go_iret dX10_law_47 rfl rfl ⟨_, rfl, ?_⟩
      rw [show max L 1 = k by omega] at hQ
      exact hQ
    · refine go_iload_n 1 dX10_law_14 rfl rfl ?_
      refine go_iconst dX10_law_15 (by decide) ?_
      refine go_iconst dX10_law_16 (by decide) ?_
      refine go_aload_n 2 dX10_law_17 rfl rfl ?_
      refine go_getR (r := 284) dX10_law_18 lk10_22.get kd_279 (by omega) rfl (pp_279_8 w) ?_
      refine go_iconst dX10_law_21 (by decide) ?_
      refine go_iload_n 0 dX10_law_22 rfl rfl ?_
      refine gx_iadd (v := ((k + 1 : Nat) : Int)) dX10_law_23 (by omega) ⟨by omega, by omega⟩ ?_
      refine go_iconst dX10_law_24 (by decide) ?_
      refine gx_isub (v := ((k - 1 + 1 : Nat) : Int)) dX10_law_25 (by omega) ⟨by omega, by omega⟩ ?_
      have f2 := hL.2.2.2 (k - 1) (by omega)
      refine gx_iaload (v := (M 284 (k - 1 + 1))) (k - 1 + 1) dX10_law_26 kd_284 (by omega) ln_284 rfl (by omega) rfl ?_
      refine gx_imul (v := (5 * (M 284 (k - 1 + 1)))) dX10_law_27 rfl ⟨by omega, by omega⟩ ?_
      refine go_aload_n 2 dX10_law_28 rfl rfl ?_
      refine go_getR (r := 284) dX10_law_29 lk10_22.get kd_279 (by omega) rfl (pp_279_8 w) ?_
      refine go_iconst dX10_law_32 (by decide) ?_
      refine go_iload_n 0 dX10_law_33 rfl rfl ?_
      refine gx_iadd (v := ((k + 1 : Nat) : Int)) dX10_law_34 (by omega) ⟨by omega, by omega⟩ ?_
      have f3 := hL.2.2.2 k (by omega)
      refine gx_iaload (v := (M 284 (k + 1))) (k + 1) dX10_law_35 kd_284 (by omega) ln_284 rfl (by omega) rfl ?_
      refine gx_iadd (v := ((5 * (M 284 (k - 1 + 1))) + (M 284 (k + 1)))) dX10_law_36 rfl ⟨by omega, by omega⟩ ?_
      refine gx_shl ((((5 * (M 284 (k - 1 + 1))) + (M 284 (k + 1)))).toNat) dX10_law_37 (by omega) (by omega) rfl ?_
      refine gx_ior (a := orTo (lawG (fun j => M 284 (j + 1))) k) (b := (2 ^ ((((5 * (M 284 (k - 1 + 1))) + (M 284 (k + 1)))).toNat))) dX10_law_38 (by omega) (by omega) ?_
      refine go_istore_n (lv' := [(1, vI (((orTo (lawG (fun j => M 284 (j + 1))) k) ||| (2 ^ ((((5 * (M 284 (k - 1 + 1))) + (M 284 (k + 1)))).toNat)) : Nat) : Int)), (2, vI ((k : Nat) : Int)), (0, vR 279)]) dX10_law_39 rfl (by decide) rfl ?_
      refine gx_iinc (v := ((k + 1 : Nat) : Int)) (lv' := [(2, vI ((k + 1 : Nat) : Int)), (1, vI (((orTo (lawG (fun j => M 284 (j + 1))) k) ||| (2 ^ ((((5 * (M 284 (k - 1 + 1))) + (M 284 (k + 1)))).toNat)) : Nat) : Int)), (0, vR 279)]) 1 dX10_law_40 rfl (by omega) ⟨by omega, by omega⟩ (by decide) rfl ?_
      refine go_goto (tgt := 4) dX10_law_43 rfl ?_
      have e4 : (((orTo (lawG (fun j => M 284 (j + 1))) k) ||| (2 ^ ((((5 * (M 284 (k - 1 + 1))) + (M 284 (k + 1)))).toNat)) : Nat) : Int) = ((orTo (lawG (fun j => M 284 (j + 1))) (k + 1) : Nat) : Int) := by (rw [orTo_s, lawG, if_neg (by omega)])
      rw [e4]
      exact ih (k + 1) (by omega) (by omega) (by omega)

set_option maxHeartbeats 4000000 in
set_option maxRecDepth 100000 in
theorem ok_X10_law {w L : Nat} {M : inm} {Q : Int → Nat → rfm → inm → Prop} (hL : Lay10 M L) (hQ : Q ((orTo (lawG (fun j => M 284 (j + 1))) (max L 1) : Nat) : Int) 303 (PP w) M) : OkI yX10_law cX10_law 3 0 0 0 (some .int) [vR 279] 303 (PP w) M Q := by
  refine OkI.of (by decide +kernel) (by decide +kernel) (Nat.le_of_ble_eq_true rfl) ?_
  refine go_eq (lv' := [(0, vR 279)]) rfl rfl rfl rfl rfl ?_
  have hL12 := hL.2.1
  refine go_iconst dX10_law_0 (by decide) ?_
  refine go_istore_n (lv' := [(1, vI 0), (0, vR 279)]) dX10_law_1 rfl (by decide) rfl ?_
  refine go_iconst dX10_law_2 (by decide) ?_
  refine go_istore_n (lv' := [(2, vI 1), (1, vI 0), (0, vR 279)]) dX10_law_3 rfl (by decide) rfl ?_
  refine go_eq (lv' := [(2, vI 1), (1, vI ((orTo (lawG (fun j => M 284 (j + 1))) 1 : Nat) : Int)), (0, vR 279)]) (by simp [orTo, lawG]) rfl rfl rfl rfl ?_
  exact lp_X10_law hL hQ (max L 1 + 1) 1 (by omega) (by omega) (by omega)

set_option maxHeartbeats 4000000 in
set_option maxRecDepth 100000 in
theorem lp_X10_envyBy_now {w E : Nat} {M : inm} {Q : Int → Nat → rfm → inm → Prop} (hE : M 279 2 = (E : Int) ∧ E ≤ 5) (hg : ∀ e, e < E → 0 ≤ (M 284 (e + 29)) ∧ (M 284 (e + 29)) ≤ 20000) (hQ : Q (if E = 0 then 0 else (fo (envG (fun e => M 284 (e + 29))) E (-1, 1000000)).1 - (fo (envG (fun e => M 284 (e + 29))) E (-1, 1000000)).2) 303 (PP w) M) : ∀ (d k : Nat), E < k + d → k ≤ E → Go S0 yX10_envyBy cX10_envyBy 6 0 0 0 (some .int) 9 [(5, vI ((k : Nat) : Int)), (3, vI ((fo (envG (fun e => M 284 (e + 29))) k (-1, 1000000)).1)), (4, vI ((fo (envG (fun e => M 284 (e + 29))) k (-1, 1000000)).2)), (0, vR 279), (1, vR 284), (2, vI 29)] [] 303 (PP w) M (fun v n P M => ∃ z, v = some (vI z) ∧ Q z n P M) := by
  have hE5 := hE.2
  intro d
  induction d with
  | zero => intro k h1 h2; exfalso; omega
  | succ d ih =>
    intro k h1 h2
    have hen := envG_in (g := (fun e => M 284 (e + 29))) k (fun e he => hg e (by omega))
    refine go_iload 0 dX10_envyBy_9 rfl ?_
    refine go_aload_n 3 dX10_envyBy_11 rfl rfl ?_
    refine gx_getI (v := ((E : Nat) : Int)) dX10_envyBy_12 lk10_91.get kd_279 (by omega) rfl hE.1 ?_
    refine go_icmp_ge (tgt := 69) dX10_envyBy_15 rfl (fun c1 => ?_) (fun c1 => ?_)
    · refine go_aload_n 3 dX10_envyBy_69 rfl rfl ?_
      refine gx_getI (v := ((E : Nat) : Int)) dX10_envyBy_70 lk10_91.get kd_279 (by omega) rfl hE.1 ?_
      refine go_if_ne (tgt := 80) dX10_envyBy_73 rfl (fun c2 => ?_) (fun c2 => ?_)
      · refine go_iload_n 1 dX10_envyBy_80 rfl rfl ?_
        refine go_iload 2 dX10_envyBy_81 rfl ?_
        refine gx_isub (v := ((fo (envG (fun e => M 284 (e + 29))) k (-1, 1000000)).1 - (fo (envG (fun e => M 284 (e + 29))) k (-1, 1000000)).2)) dX10_envyBy_83 rfl ⟨by omega, by omega⟩ ?_
        refine go_iret dX10_envyBy_84 rfl rfl ⟨_, rfl, ?_⟩
        have hkE : k = E := by omega
        subst hkE
        first | (rw [if_pos (by omega)] at hQ; exact hQ) | (rw [if_neg (by omega)] at hQ; exact hQ)
      · refine go_iconst dX10_envyBy_76 (by decide) ?_
        refine go_goto (tgt := 84) dX10_envyBy_77 rfl ?_
        refine go_iret dX10_envyBy_84 rfl rfl ⟨_, rfl, ?_⟩
        have hkE : k = E := by omega
        subst hkE
        first | (rw [if_pos (by omega)] at hQ; exact hQ) | (rw [if_neg (by omega)] at hQ; exact hQ)
    · refine go_aload_n 4 dX10_envyBy_18 rfl rfl ?_
      refine go_iload_n 5 dX10_envyBy_19 rfl rfl ?_
      refine go_iload 0 dX10_envyBy_20 rfl ?_
      refine gx_iadd (v := ((k + 29 : Nat) : Int)) dX10_envyBy_22 (by omega) ⟨by omega, by omega⟩ ?_
      have f3 := hg k (by omega)
      refine gx_iaload (v := (M 284 (k + 29))) (k + 29) dX10_envyBy_23 kd_284 (by omega) ln_284 rfl (by omega) rfl ?_
      refine go_iload_n 1 dX10_envyBy_24 rfl rfl ?_
      refine go_icmp_le (tgt := 37) dX10_envyBy_25 rfl (fun c4 => ?_) (fun c4 => ?_)
      · refine go_iload_n 1 dX10_envyBy_37 rfl rfl ?_
        refine go_istore_n (lv' := [(3, vI ((fo (envG (fun e => M 284 (e + 29))) k (-1, 1000000)).1)), (5, vI ((k : Nat) : Int)), (4, vI ((fo (envG (fun e => M 284 (e + 29))) k (-1, 1000000)).2)), (0, vR 279), (1, vR 284), (2, vI 29)]) dX10_envyBy_38 rfl (by decide) rfl ?_
        refine go_aload_n 4 dX10_envyBy_39 rfl rfl ?_
        refine go_iload_n 5 dX10_envyBy_40 rfl rfl ?_
        refine go_iload 1 dX10_envyBy_41 rfl ?_
        refine gx_iadd (v := ((k + 29 : Nat) : Int)) dX10_envyBy_43 (by omega) ⟨by omega, by omega⟩ ?_
        have f5 := hg k (by omega)
        refine gx_iaload (v := (M 284 (k + 29))) (k + 29) dX10_envyBy_44 kd_284 (by omega) ln_284 rfl (by omega) rfl ?_
        refine go_iload 2 dX10_envyBy_45 rfl ?_
        refine go_icmp_ge (tgt := 59) dX10_envyBy_47 rfl (fun c6 => ?_) (fun c6 => ?_)
        · refine go_iload 2 dX10_envyBy_59 rfl ?_
          refine go_istore (lv' := [(4, vI ((fo (envG (fun e => M 284 (e + 29))) k (-1, 1000000)).2)), (3, vI ((fo (envG (fun e => M 284 (e + 29))) k (-1, 1000000)).1)), (5, vI ((k : Nat) : Int)), (0, vR 279), (1, vR 284), (2, vI 29)]) dX10_envyBy_61 (by decide) rfl ?_
          refine gx_iinc (v := ((k + 1 : Nat) : Int)) (lv' := [(5, vI ((k + 1 : Nat) : Int)), (4, vI ((fo (envG (fun e => M 284 (e + 29))) k (-1, 1000000)).2)), (3, vI ((fo (envG (fun e => M 284 (e + 29))) k (-1, 1000000)).1)), (0, vR 279), (1, vR 284), (2, vI 29)]) 2 dX10_envyBy_63 rfl (by omega) ⟨by omega, by omega⟩ (by decide) rfl ?_
          refine go_goto (tgt := 9) dX10_envyBy_66 rfl ?_
          refine go_lv [0, 2, 1, 3, 4, 5] rfl ?_
          have e7 : (fo (envG (fun e => M 284 (e + 29))) (k + 1) (-1, 1000000)) = ((fo (envG (fun e => M 284 (e + 29))) k (-1, 1000000)).1, (fo (envG (fun e => M 284 (e + 29))) k (-1, 1000000)).2) := by (rw [fo]; simp only [envG]; exact pr_eq (by first | exact if_pos (by omega) | exact if_neg (by omega)) (by first | exact if_pos (by omega) | exact if_neg (by omega)))
          refine go_eq (lv' := [(5, vI (((k + 1) : Nat) : Int)), (3, vI ((fo (envG (fun e => M 284 (e + 29))) (k + 1) (-1, 1000000)).1)), (4, vI ((fo (envG (fun e => M 284 (e + 29))) (k + 1) (-1, 1000000)).2)), (0, vR 279), (1, vR 284), (2, vI 29)]) (by rw [e7]; rfl) rfl rfl rfl rfl ?_
          exact ih (k + 1) (by omega) (by omega)
        · refine go_aload_n 4 dX10_envyBy_50 rfl rfl ?_
          refine go_iload_n 5 dX10_envyBy_51 rfl rfl ?_
          refine go_iload 1 dX10_envyBy_52 rfl ?_
          refine gx_iadd (v := ((k + 29 : Nat) : Int)) dX10_envyBy_54 (by omega) ⟨by omega, by omega⟩ ?_
          have f8 := hg k (by omega)
          refine gx_iaload (v := (M 284 (k + 29))) (k + 29) dX10_envyBy_55 kd_284 (by omega) ln_284 rfl (by omega) rfl ?_
          refine go_goto (tgt := 61) dX10_envyBy_56 rfl ?_
          refine go_istore (lv' := [(4, vI (M 284 (k + 29))), (3, vI ((fo (envG (fun e => M 284 (e + 29))) k (-1, 1000000)).1)), (5, vI ((k : Nat) : Int)), (0, vR 279), (1, vR 284), (2, vI 29)]) dX10_envyBy_61 (by decide) rfl ?_
          refine gx_iinc (v := ((k + 1 : Nat) : Int)) (lv' := [(5, vI ((k + 1 : Nat) : Int)), (4, vI (M 284 (k + 29))), (3, vI ((fo (envG (fun e => M 284 (e + 29))) k (-1, 1000000)).1)), (0, vR 279), (1, vR 284), (2, vI 29)]) 2 dX10_envyBy_63 rfl (by omega) ⟨by omega, by omega⟩ (by decide) rfl ?_
          refine go_goto (tgt := 9) dX10_envyBy_66 rfl ?_
          refine go_lv [0, 2, 1, 3, 4, 5] rfl ?_
          have e9 : (fo (envG (fun e => M 284 (e + 29))) (k + 1) (-1, 1000000)) = ((fo (envG (fun e => M 284 (e + 29))) k (-1, 1000000)).1, (M 284 (k + 29))) := by (rw [fo]; simp only [envG]; exact pr_eq (by first | exact if_pos (by omega) | exact if_neg (by omega)) (by first | exact if_pos (by omega) | exact if_neg (by omega)))
          refine go_eq (lv' := [(5, vI (((k + 1) : Nat) : Int)), (3, vI ((fo (envG (fun e => M 284 (e + 29))) (k + 1) (-1, 1000000)).1)), (4, vI ((fo (envG (fun e => M 284 (e + 29))) (k + 1) (-1, 1000000)).2)), (0, vR 279), (1, vR 284), (2, vI 29)]) (by rw [e9]; rfl) rfl rfl rfl rfl ?_
          exact ih (k + 1) (by omega) (by omega)
      · refine go_aload_n 4 dX10_envyBy_28 rfl rfl ?_
        refine go_iload_n 5 dX10_envyBy_29 rfl rfl ?_
        refine go_iload 0 dX10_envyBy_30 rfl ?_
        refine gx_iadd (v := ((k + 29 : Nat) : Int)) dX10_envyBy_32 (by omega) ⟨by omega, by omega⟩ ?_
        have f10 := hg k (by omega)
        refine gx_iaload (v := (M 284 (k + 29))) (k + 29) dX10_envyBy_33 kd_284 (by omega) ln_284 rfl (by omega) rfl ?_
        refine go_goto (tgt := 38) dX10_envyBy_34 rfl ?_
        refine go_istore_n (lv' := [(3, vI (M 284 (k + 29))), (5, vI ((k : Nat) : Int)), (4, vI ((fo (envG (fun e => M 284 (e + 29))) k (-1, 1000000)).2)), (0, vR 279), (1, vR 284), (2, vI 29)]) dX10_envyBy_38 rfl (by decide) rfl ?_
        refine go_aload_n 4 dX10_envyBy_39 rfl rfl ?_
        refine go_iload_n 5 dX10_envyBy_40 rfl rfl ?_
        refine go_iload 1 dX10_envyBy_41 rfl ?_
        refine gx_iadd (v := ((k + 29 : Nat) : Int)) dX10_envyBy_43 (by omega) ⟨by omega, by omega⟩ ?_
        have f11 := hg k (by omega)
        refine gx_iaload (v := (M 284 (k + 29))) (k + 29) dX10_envyBy_44 kd_284 (by omega) ln_284 rfl (by omega) rfl ?_
        refine go_iload 2 dX10_envyBy_45 rfl ?_
        refine go_icmp_ge (tgt := 59) dX10_envyBy_47 rfl (fun c12 => ?_) (fun c12 => ?_)
        · refine go_iload 2 dX10_envyBy_59 rfl ?_
          refine go_istore (lv' := [(4, vI ((fo (envG (fun e => M 284 (e + 29))) k (-1, 1000000)).2)), (3, vI (M 284 (k + 29))), (5, vI ((k : Nat) : Int)), (0, vR 279), (1, vR 284), (2, vI 29)]) dX10_envyBy_61 (by decide) rfl ?_
          refine gx_iinc (v := ((k + 1 : Nat) : Int)) (lv' := [(5, vI ((k + 1 : Nat) : Int)), (4, vI ((fo (envG (fun e => M 284 (e + 29))) k (-1, 1000000)).2)), (3, vI (M 284 (k + 29))), (0, vR 279), (1, vR 284), (2, vI 29)]) 2 dX10_envyBy_63 rfl (by omega) ⟨by omega, by omega⟩ (by decide) rfl ?_
          refine go_goto (tgt := 9) dX10_envyBy_66 rfl ?_
          refine go_lv [0, 2, 1, 3, 4, 5] rfl ?_
          have e13 : (fo (envG (fun e => M 284 (e + 29))) (k + 1) (-1, 1000000)) = ((M 284 (k + 29)), (fo (envG (fun e => M 284 (e + 29))) k (-1, 1000000)).2) := by (rw [fo]; simp only [envG]; exact pr_eq (by first | exact if_pos (by omega) | exact if_neg (by omega)) (by first | exact if_pos (by omega) | exact if_neg (by omega)))
          refine go_eq (lv' := [(5, vI (((k + 1) : Nat) : Int)), (3, vI ((fo (envG (fun e => M 284 (e + 29))) (k + 1) (-1, 1000000)).1)), (4, vI ((fo (envG (fun e => M 284 (e + 29))) (k + 1) (-1, 1000000)).2)), (0, vR 279), (1, vR 284), (2, vI 29)]) (by rw [e13]; rfl) rfl rfl rfl rfl ?_
          exact ih (k + 1) (by omega) (by omega)
        · refine go_aload_n 4 dX10_envyBy_50 rfl rfl ?_
          refine go_iload_n 5 dX10_envyBy_51 rfl rfl ?_
          refine go_iload 1 dX10_envyBy_52 rfl ?_
          refine gx_iadd (v := ((k + 29 : Nat) : Int)) dX10_envyBy_54 (by omega) ⟨by omega, by omega⟩ ?_
          have f14 := hg k (by omega)
          refine gx_iaload (v := (M 284 (k + 29))) (k + 29) dX10_envyBy_55 kd_284 (by omega) ln_284 rfl (by omega) rfl ?_
          refine go_goto (tgt := 61) dX10_envyBy_56 rfl ?_
          refine go_istore (lv' := [(4, vI (M 284 (k + 29))), (3, vI (M 284 (k + 29))), (5, vI ((k : Nat) : Int)), (0, vR 279), (1, vR 284), (2, vI 29)]) dX10_envyBy_61 (by decide) rfl ?_
          refine gx_iinc (v := ((k + 1 : Nat) : Int)) (lv' := [(5, vI ((k + 1 : Nat) : Int)), (4, vI (M 284 (k + 29))), (3, vI (M 284 (k + 29))), (0, vR 279), (1, vR 284), (2, vI 29)]) 2 dX10_envyBy_63 rfl (by omega) ⟨by omega, by omega⟩ (by decide) rfl ?_
          refine go_goto (tgt := 9) dX10_envyBy_66 rfl ?_
          refine go_lv [0, 2, 1, 3, 4, 5] rfl ?_
          have e15 : (fo (envG (fun e => M 284 (e + 29))) (k + 1) (-1, 1000000)) = ((M 284 (k + 29)), (M 284 (k + 29))) := by (rw [fo]; simp only [envG]; exact pr_eq (by first | exact if_pos (by omega) | exact if_neg (by omega)) (by first | exact if_pos (by omega) | exact if_neg (by omega)))
          refine go_eq (lv' := [(5, vI (((k + 1) : Nat) : Int)), (3, vI ((fo (envG (fun e => M 284 (e + 29))) (k + 1) (-1, 1000000)).1)), (4, vI ((fo (envG (fun e => M 284 (e + 29))) (k + 1) (-1, 1000000)).2)), (0, vR 279), (1, vR 284), (2, vI 29)]) (by rw [e15]; rfl) rfl rfl rfl rfl ?_
          exact ih (k + 1) (by omega) (by omega)

set_option maxHeartbeats 4000000 in
set_option maxRecDepth 100000 in
theorem ok_X10_envyBy_now {w E : Nat} {M : inm} {Q : Int → Nat → rfm → inm → Prop} (hE : M 279 2 = (E : Int) ∧ E ≤ 5) (hg : ∀ e, e < E → 0 ≤ (M 284 (e + 29)) ∧ (M 284 (e + 29)) ≤ 20000) (hQ : Q (if E = 0 then 0 else (fo (envG (fun e => M 284 (e + 29))) E (-1, 1000000)).1 - (fo (envG (fun e => M 284 (e + 29))) E (-1, 1000000)).2) 303 (PP w) M) : OkI yX10_envyBy cX10_envyBy 6 0 0 0 (some .int) [vR 279, vR 284, vI 29] 303 (PP w) M Q := by
  refine OkI.of (by decide +kernel) (by decide +kernel) (Nat.le_of_ble_eq_true rfl) ?_
  refine go_eq (lv' := [(0, vR 279), (1, vR 284), (2, vI 29)]) rfl rfl rfl rfl rfl ?_
  refine go_iconst dX10_envyBy_0 (by decide) ?_
  refine go_istore_n (lv' := [(3, vI (-1)), (0, vR 279), (1, vR 284), (2, vI 29)]) dX10_envyBy_1 rfl (by decide) rfl ?_
  refine go_ldc dX10_envyBy_2 ik10_197 (by decide) ?_
  refine go_istore (lv' := [(4, vI 1000000), (3, vI (-1)), (0, vR 279), (1, vR 284), (2, vI 29)]) dX10_envyBy_4 (by decide) rfl ?_
  refine go_iconst dX10_envyBy_6 (by decide) ?_
  refine go_istore (lv' := [(5, vI 0), (4, vI 1000000), (3, vI (-1)), (0, vR 279), (1, vR 284), (2, vI 29)]) dX10_envyBy_7 (by decide) rfl ?_
  refine go_lv [0, 2, 1, 3, 4, 5] rfl ?_
  exact lp_X10_envyBy_now hE hg hQ (E + 1) 0 (by omega) (by omega)

set_option maxHeartbeats 4000000 in
set_option maxRecDepth 100000 in
theorem lp_X10_envyBy_would {w E : Nat} {M : inm} {Q : Int → Nat → rfm → inm → Prop} (hE : M 279 2 = (E : Int) ∧ E ≤ 5) (hg : ∀ e, e < E → 0 ≤ (M 300 e) ∧ (M 300 e) ≤ 20000) (hQ : Q (if E = 0 then 0 else (fo (envG (fun e => M 300 e)) E (-1, 1000000)).1 - (fo (envG (fun e => M 300 e)) E (-1, 1000000)).2) 303 (PP w) M) : ∀ (d k : Nat), E < k + d → k ≤ E → Go S0 yX10_envyBy cX10_envyBy 6 0 0 0 (some .int) 9 [(5, vI ((k : Nat) : Int)), (3, vI ((fo (envG (fun e => M 300 e)) k (-1, 1000000)).1)), (4, vI ((fo (envG (fun e => M 300 e)) k (-1, 1000000)).2)), (0, vR 279), (1, vR 300), (2, vI 0)] [] 303 (PP w) M (fun v n P M => ∃ z, v = some (vI z) ∧ Q z n P M) := by
  have hE5 := hE.2
  intro d
  induction d with
  | zero => intro k h1 h2; exfalso; omega
  | succ d ih =>
    intro k h1 h2
    have hen := envG_in (g := (fun e => M 300 e)) k (fun e he => hg e (by omega))
    refine go_iload 0 dX10_envyBy_9 rfl ?_
    refine go_aload_n 3 dX10_envyBy_11 rfl rfl ?_
    refine gx_getI (v := ((E : Nat) : Int)) dX10_envyBy_12 lk10_91.get kd_279 (by omega) rfl hE.1 ?_
    refine go_icmp_ge (tgt := 69) dX10_envyBy_15 rfl (fun c1 => ?_) (fun c1 => ?_)
    · refine go_aload_n 3 dX10_envyBy_69 rfl rfl ?_
      refine gx_getI (v := ((E : Nat) : Int)) dX10_envyBy_70 lk10_91.get kd_279 (by omega) rfl hE.1 ?_
      refine go_if_ne (tgt := 80) dX10_envyBy_73 rfl (fun c2 => ?_) (fun c2 => ?_)
      · refine go_iload_n 1 dX10_envyBy_80 rfl rfl ?_
        refine go_iload 2 dX10_envyBy_81 rfl ?_
        refine gx_isub (v := ((fo (envG (fun e => M 300 e)) k (-1, 1000000)).1 - (fo (envG (fun e => M 300 e)) k (-1, 1000000)).2)) dX10_envyBy_83 rfl ⟨by omega, by omega⟩ ?_
        refine go_iret dX10_envyBy_84 rfl rfl ⟨_, rfl, ?_⟩
        have hkE : k = E := by omega
        subst hkE
        first | (rw [if_pos (by omega)] at hQ; exact hQ) | (rw [if_neg (by omega)] at hQ; exact hQ)
      · refine go_iconst dX10_envyBy_76 (by decide) ?_
        refine go_goto (tgt := 84) dX10_envyBy_77 rfl ?_
        refine go_iret dX10_envyBy_84 rfl rfl ⟨_, rfl, ?_⟩
        have hkE : k = E := by omega
        subst hkE
        first | (rw [if_pos (by omega)] at hQ; exact hQ) | (rw [if_neg (by omega)] at hQ; exact hQ)
    · refine go_aload_n 4 dX10_envyBy_18 rfl rfl ?_
      refine go_iload_n 5 dX10_envyBy_19 rfl rfl ?_
      refine go_iload 0 dX10_envyBy_20 rfl ?_
      refine gx_iadd (v := ((k : Nat) : Int)) dX10_envyBy_22 (by omega) ⟨by omega, by omega⟩ ?_
      have f3 := hg k (by omega)
      refine gx_iaload (v := (M 300 k)) k dX10_envyBy_23 kd_300 (by omega) ln_300 rfl (by omega) rfl ?_
      refine go_iload_n 1 dX10_envyBy_24 rfl rfl ?_
      refine go_icmp_le (tgt := 37) dX10_envyBy_25 rfl (fun c4 => ?_) (fun c4 => ?_)
      · refine go_iload_n 1 dX10_envyBy_37 rfl rfl ?_
        refine go_istore_n (lv' := [(3, vI ((fo (envG (fun e => M 300 e)) k (-1, 1000000)).1)), (5, vI ((k : Nat) : Int)), (4, vI ((fo (envG (fun e => M 300 e)) k (-1, 1000000)).2)), (0, vR 279), (1, vR 300), (2, vI 0)]) dX10_envyBy_38 rfl (by decide) rfl ?_
        refine go_aload_n 4 dX10_envyBy_39 rfl rfl ?_
        refine go_iload_n 5 dX10_envyBy_40 rfl rfl ?_
        refine go_iload 1 dX10_envyBy_41 rfl ?_
        refine gx_iadd (v := ((k : Nat) : Int)) dX10_envyBy_43 (by omega) ⟨by omega, by omega⟩ ?_
        have f5 := hg k (by omega)
        refine gx_iaload (v := (M 300 k)) k dX10_envyBy_44 kd_300 (by omega) ln_300 rfl (by omega) rfl ?_
        refine go_iload 2 dX10_envyBy_45 rfl ?_
        refine go_icmp_ge (tgt := 59) dX10_envyBy_47 rfl (fun c6 => ?_) (fun c6 => ?_)
        · refine go_iload 2 dX10_envyBy_59 rfl ?_
          refine go_istore (lv' := [(4, vI ((fo (envG (fun e => M 300 e)) k (-1, 1000000)).2)), (3, vI ((fo (envG (fun e => M 300 e)) k (-1, 1000000)).1)), (5, vI ((k : Nat) : Int)), (0, vR 279), (1, vR 300), (2, vI 0)]) dX10_envyBy_61 (by decide) rfl ?_
          refine gx_iinc (v := ((k + 1 : Nat) : Int)) (lv' := [(5, vI ((k + 1 : Nat) : Int)), (4, vI ((fo (envG (fun e => M 300 e)) k (-1, 1000000)).2)), (3, vI ((fo (envG (fun e => M 300 e)) k (-1, 1000000)).1)), (0, vR 279), (1, vR 300), (2, vI 0)]) 2 dX10_envyBy_63 rfl (by omega) ⟨by omega, by omega⟩ (by decide) rfl ?_
          refine go_goto (tgt := 9) dX10_envyBy_66 rfl ?_
          refine go_lv [0, 2, 1, 3, 4, 5] rfl ?_
          have e7 : (fo (envG (fun e => M 300 e)) (k + 1) (-1, 1000000)) = ((fo (envG (fun e => M 300 e)) k (-1, 1000000)).1, (fo (envG (fun e => M 300 e)) k (-1, 1000000)).2) := by (rw [fo]; simp only [envG]; exact pr_eq (by first | exact if_pos (by omega) | exact if_neg (by omega)) (by first | exact if_pos (by omega) | exact if_neg (by omega)))
          refine go_eq (lv' := [(5, vI (((k + 1) : Nat) : Int)), (3, vI ((fo (envG (fun e => M 300 e)) (k + 1) (-1, 1000000)).1)), (4, vI ((fo (envG (fun e => M 300 e)) (k + 1) (-1, 1000000)).2)), (0, vR 279), (1, vR 300), (2, vI 0)]) (by rw [e7]; rfl) rfl rfl rfl rfl ?_
          exact ih (k + 1) (by omega) (by omega)
        · refine go_aload_n 4 dX10_envyBy_50 rfl rfl ?_
          refine go_iload_n 5 dX10_envyBy_51 rfl rfl ?_
          refine go_iload 1 dX10_envyBy_52 rfl ?_
          refine gx_iadd (v := ((k : Nat) : Int)) dX10_envyBy_54 (by omega) ⟨by omega, by omega⟩ ?_
          have f8 := hg k (by omega)
          refine gx_iaload (v := (M 300 k)) k dX10_envyBy_55 kd_300 (by omega) ln_300 rfl (by omega) rfl ?_
          refine go_goto (tgt := 61) dX10_envyBy_56 rfl ?_
          refine go_istore (lv' := [(4, vI (M 300 k)), (3, vI ((fo (envG (fun e => M 300 e)) k (-1, 1000000)).1)), (5, vI ((k : Nat) : Int)), (0, vR 279), (1, vR 300), (2, vI 0)]) dX10_envyBy_61 (by decide) rfl ?_
          refine gx_iinc (v := ((k + 1 : Nat) : Int)) (lv' := [(5, vI ((k + 1 : Nat) : Int)), (4, vI (M 300 k)), (3, vI ((fo (envG (fun e => M 300 e)) k (-1, 1000000)).1)), (0, vR 279), (1, vR 300), (2, vI 0)]) 2 dX10_envyBy_63 rfl (by omega) ⟨by omega, by omega⟩ (by decide) rfl ?_
          refine go_goto (tgt := 9) dX10_envyBy_66 rfl ?_
          refine go_lv [0, 2, 1, 3, 4, 5] rfl ?_
          have e9 : (fo (envG (fun e => M 300 e)) (k + 1) (-1, 1000000)) = ((fo (envG (fun e => M 300 e)) k (-1, 1000000)).1, (M 300 k)) := by (rw [fo]; simp only [envG]; exact pr_eq (by first | exact if_pos (by omega) | exact if_neg (by omega)) (by first | exact if_pos (by omega) | exact if_neg (by omega)))
          refine go_eq (lv' := [(5, vI (((k + 1) : Nat) : Int)), (3, vI ((fo (envG (fun e => M 300 e)) (k + 1) (-1, 1000000)).1)), (4, vI ((fo (envG (fun e => M 300 e)) (k + 1) (-1, 1000000)).2)), (0, vR 279), (1, vR 300), (2, vI 0)]) (by rw [e9]; rfl) rfl rfl rfl rfl ?_
          exact ih (k + 1) (by omega) (by omega)
      · refine go_aload_n 4 dX10_envyBy_28 rfl rfl ?_
        refine go_iload_n 5 dX10_envyBy_29 rfl rfl ?_
        refine go_iload 0 dX10_envyBy_30 rfl ?_
        refine gx_iadd (v := ((k : Nat) : Int)) dX10_envyBy_32 (by omega) ⟨by omega, by omega⟩ ?_
        have f10 := hg k (by omega)
        refine gx_iaload (v := (M 300 k)) k dX10_envyBy_33 kd_300 (by omega) ln_300 rfl (by omega) rfl ?_
        refine go_goto (tgt := 38) dX10_envyBy_34 rfl ?_
        refine go_istore_n (lv' := [(3, vI (M 300 k)), (5, vI ((k : Nat) : Int)), (4, vI ((fo (envG (fun e => M 300 e)) k (-1, 1000000)).2)), (0, vR 279), (1, vR 300), (2, vI 0)]) dX10_envyBy_38 rfl (by decide) rfl ?_
        refine go_aload_n 4 dX10_envyBy_39 rfl rfl ?_
        refine go_iload_n 5 dX10_envyBy_40 rfl rfl ?_
        refine go_iload 1 dX10_envyBy_41 rfl ?_
        refine gx_iadd (v := ((k : Nat) : Int)) dX10_envyBy_43 (by omega) ⟨by omega, by omega⟩ ?_
        have f11 := hg k (by omega)
        refine gx_iaload (v := (M 300 k)) k dX10_envyBy_44 kd_300 (by omega) ln_300 rfl (by omega) rfl ?_
        refine go_iload 2 dX10_envyBy_45 rfl ?_
        refine go_icmp_ge (tgt := 59) dX10_envyBy_47 rfl (fun c12 => ?_) (fun c12 => ?_)
        · refine go_iload 2 dX10_envyBy_59 rfl ?_
          refine go_istore (lv' := [(4, vI ((fo (envG (fun e => M 300 e)) k (-1, 1000000)).2)), (3, vI (M 300 k)), (5, vI ((k : Nat) : Int)), (0, vR 279), (1, vR 300), (2, vI 0)]) dX10_envyBy_61 (by decide) rfl ?_
          refine gx_iinc (v := ((k + 1 : Nat) : Int)) (lv' := [(5, vI ((k + 1 : Nat) : Int)), (4, vI ((fo (envG (fun e => M 300 e)) k (-1, 1000000)).2)), (3, vI (M 300 k)), (0, vR 279), (1, vR 300), (2, vI 0)]) 2 dX10_envyBy_63 rfl (by omega) ⟨by omega, by omega⟩ (by decide) rfl ?_
          refine go_goto (tgt := 9) dX10_envyBy_66 rfl ?_
          refine go_lv [0, 2, 1, 3, 4, 5] rfl ?_
          have e13 : (fo (envG (fun e => M 300 e)) (k + 1) (-1, 1000000)) = ((M 300 k), (fo (envG (fun e => M 300 e)) k (-1, 1000000)).2) := by (rw [fo]; simp only [envG]; exact pr_eq (by first | exact if_pos (by omega) | exact if_neg (by omega)) (by first | exact if_pos (by omega) | exact if_neg (by omega)))
          refine go_eq (lv' := [(5, vI (((k + 1) : Nat) : Int)), (3, vI ((fo (envG (fun e => M 300 e)) (k + 1) (-1, 1000000)).1)), (4, vI ((fo (envG (fun e => M 300 e)) (k + 1) (-1, 1000000)).2)), (0, vR 279), (1, vR 300), (2, vI 0)]) (by rw [e13]; rfl) rfl rfl rfl rfl ?_
          exact ih (k + 1) (by omega) (by omega)
        · refine go_aload_n 4 dX10_envyBy_50 rfl rfl ?_
          refine go_iload_n 5 dX10_envyBy_51 rfl rfl ?_
          refine go_iload 1 dX10_envyBy_52 rfl ?_
          refine gx_iadd (v := ((k : Nat) : Int)) dX10_envyBy_54 (by omega) ⟨by omega, by omega⟩ ?_
          have f14 := hg k (by omega)
          refine gx_iaload (v := (M 300 k)) k dX10_envyBy_55 kd_300 (by omega) ln_300 rfl (by omega) rfl ?_
          refine go_goto (tgt := 61) dX10_envyBy_56 rfl ?_
          refine go_istore (lv' := [(4, vI (M 300 k)), (3, vI (M 300 k)), (5, vI ((k : Nat) : Int)), (0, vR 279), (1, vR 300), (2, vI 0)]) dX10_envyBy_61 (by decide) rfl ?_
          refine gx_iinc (v := ((k + 1 : Nat) : Int)) (lv' := [(5, vI ((k + 1 : Nat) : Int)), (4, vI (M 300 k)), (3, vI (M 300 k)), (0, vR 279), (1, vR 300), (2, vI 0)]) 2 dX10_envyBy_63 rfl (by omega) ⟨by omega, by omega⟩ (by decide) rfl ?_
          refine go_goto (tgt := 9) dX10_envyBy_66 rfl ?_
          refine go_lv [0, 2, 1, 3, 4, 5] rfl ?_
          have e15 : (fo (envG (fun e => M 300 e)) (k + 1) (-1, 1000000)) = ((M 300 k), (M 300 k)) := by (rw [fo]; simp only [envG]; exact pr_eq (by first | exact if_pos (by omega) | exact if_neg (by omega)) (by first | exact if_pos (by omega) | exact if_neg (by omega)))
          refine go_eq (lv' := [(5, vI (((k + 1) : Nat) : Int)), (3, vI ((fo (envG (fun e => M 300 e)) (k + 1) (-1, 1000000)).1)), (4, vI ((fo (envG (fun e => M 300 e)) (k + 1) (-1, 1000000)).2)), (0, vR 279), (1, vR 300), (2, vI 0)]) (by rw [e15]; rfl) rfl rfl rfl rfl ?_
          exact ih (k + 1) (by omega) (by omega)

set_option maxHeartbeats 4000000 in
set_option maxRecDepth 100000 in
theorem ok_X10_envyBy_would {w E : Nat} {M : inm} {Q : Int → Nat → rfm → inm → Prop} (hE : M 279 2 = (E : Int) ∧ E ≤ 5) (hg : ∀ e, e < E → 0 ≤ (M 300 e) ∧ (M 300 e) ≤ 20000) (hQ : Q (if E = 0 then 0 else (fo (envG (fun e => M 300 e)) E (-1, 1000000)).1 - (fo (envG (fun e => M 300 e)) E (-1, 1000000)).2) 303 (PP w) M) : OkI yX10_envyBy cX10_envyBy 6 0 0 0 (some .int) [vR 279, vR 300, vI 0] 303 (PP w) M Q := by
  refine OkI.of (by decide +kernel) (by decide +kernel) (Nat.le_of_ble_eq_true rfl) ?_
  refine go_eq (lv' := [(0, vR 279), (1, vR 300), (2, vI 0)]) rfl rfl rfl rfl rfl ?_
  refine go_iconst dX10_envyBy_0 (by decide) ?_
  refine go_istore_n (lv' := [(3, vI (-1)), (0, vR 279), (1, vR 300), (2, vI 0)]) dX10_envyBy_1 rfl (by decide) rfl ?_
  refine go_ldc dX10_envyBy_2 ik10_197 (by decide) ?_
  refine go_istore (lv' := [(4, vI 1000000), (3, vI (-1)), (0, vR 279), (1, vR 300), (2, vI 0)]) dX10_envyBy_4 (by decide) rfl ?_
  refine go_iconst dX10_envyBy_6 (by decide) ?_
  refine go_istore (lv' := [(5, vI 0), (4, vI 1000000), (3, vI (-1)), (0, vR 279), (1, vR 300), (2, vI 0)]) dX10_envyBy_7 (by decide) rfl ?_
  refine go_lv [0, 2, 1, 3, 4, 5] rfl ?_
  exact lp_X10_envyBy_would hE hg hQ (E + 1) 0 (by omega) (by omega)

set_option maxHeartbeats 4000000 in
set_option maxRecDepth 100000 in
theorem lp_X10_weeps {w E : Nat} {M : inm} {Q : Int → Nat → rfm → inm → Prop} (hE : M 279 2 = (E : Int) ∧ 1 ≤ E ∧ E ≤ 5) (hQ : Q ((argX (fun e => M 284 (e + 34)) E : Nat) : Int) 303 (PP w) M) : ∀ (d k : Nat), E < k + d → 1 ≤ k → k ≤ E → Go S0 yX10_weeps cX10_weeps 3 0 0 0 (some .int) 4 [(2, vI ((k : Nat) : Int)), (1, vI ((argX (fun e => M 284 (e + 34)) k : Nat) : Int)), (0, vR 279)] [] 303 (PP w) M (fun v n P M => ∃ z, v = some (vI z) ∧ Q z n P M) := by
  have hE5 := hE.2
  intro d
  induction d with
  | zero => intro k h1 h2 h3; exfalso; omega
  | succ d ih =>
    intro k h1 h2 h3
    have hb := argX_lt (T := (fun e => M 284 (e + 34))) k
    refine go_iload_n 0 dX10_weeps_4 rfl rfl ?_
    refine go_aload_n 2 dX10_weeps_5 rfl rfl ?_
    refine gx_getI (v := ((E : Nat) : Int)) dX10_weeps_6 lk10_91.get kd_279 (by omega) rfl hE.1 ?_
    refine go_icmp_ge (tgt := 49) dX10_weeps_9 rfl (fun c1 => ?_) (fun c1 => ?_)
    · refine go_iload_n 1 dX10_weeps_49 rfl rfl ?_
      refine go_iret dX10_weeps_50 rfl rfl ⟨_, rfl, ?_⟩
      rw [show k = E by omega]
      exact hQ
    · refine go_iload_n 1 dX10_weeps_12 rfl rfl ?_
      refine go_if_lt (tgt := 37) dX10_weeps_13 rfl (fun c2 => ?_) (fun c2 => ?_)
      · exact absurd c2 (by omega)
      · refine go_aload_n 2 dX10_weeps_16 rfl rfl ?_
        refine go_getR (r := 284) dX10_weeps_17 lk10_22.get kd_279 (by omega) rfl (pp_279_8 w) ?_
        refine go_bipush dX10_weeps_20 (by decide) (by decide) ?_
        refine go_iload_n 0 dX10_weeps_22 rfl rfl ?_
        refine gx_iadd (v := ((k + 34 : Nat) : Int)) dX10_weeps_23 (by omega) ⟨by omega, by omega⟩ ?_
        refine gx_iaload (v := (M 284 (k + 34))) (k + 34) dX10_weeps_24 kd_284 (by omega) ln_284 rfl (by omega) rfl ?_
        refine go_aload_n 2 dX10_weeps_25 rfl rfl ?_
        refine go_getR (r := 284) dX10_weeps_26 lk10_22.get kd_279 (by omega) rfl (pp_279_8 w) ?_
        refine go_bipush dX10_weeps_29 (by decide) (by decide) ?_
        refine go_iload_n 1 dX10_weeps_31 rfl rfl ?_
        refine gx_iadd (v := ((argX (fun e => M 284 (e + 34)) k + 34 : Nat) : Int)) dX10_weeps_32 (by omega) ⟨by omega, by omega⟩ ?_
        refine gx_iaload (v := (M 284 (argX (fun e => M 284 (e + 34)) k + 34))) (argX (fun e => M 284 (e + 34)) k + 34) dX10_weeps_33 kd_284 (by omega) ln_284 rfl (by omega) rfl ?_
        refine go_icmp_le (tgt := 41) dX10_weeps_34 rfl (fun c3 => ?_) (fun c3 => ?_)
        · refine go_iload_n 1 dX10_weeps_41 rfl rfl ?_
          refine go_istore_n (lv' := [(1, vI ((argX (fun e => M 284 (e + 34)) k : Nat) : Int)), (2, vI ((k : Nat) : Int)), (0, vR 279)]) dX10_weeps_42 rfl (by decide) rfl ?_
          refine gx_iinc (v := ((k + 1 : Nat) : Int)) (lv' := [(2, vI ((k + 1 : Nat) : Int)), (1, vI ((argX (fun e => M 284 (e + 34)) k : Nat) : Int)), (0, vR 279)]) 1 dX10_weeps_43 rfl (by omega) ⟨by omega, by omega⟩ (by decide) rfl ?_
          refine go_goto (tgt := 4) dX10_weeps_46 rfl ?_
          have e4 : ((argX (fun e => M 284 (e + 34)) k : Nat) : Int) = ((argX (fun e => M 284 (e + 34)) (k + 1) : Nat) : Int) := by (rw [argX_s]; first | (rw [if_pos (by omega)]; done) | (rw [if_neg (by omega)]; done))
          rw [e4]
          exact ih (k + 1) (by omega) (by omega) (by omega)
        · refine go_iload_n 0 dX10_weeps_37 rfl rfl ?_
          refine go_goto (tgt := 42) dX10_weeps_38 rfl ?_
          refine go_istore_n (lv' := [(1, vI ((k : Nat) : Int)), (2, vI ((k : Nat) : Int)), (0, vR 279)]) dX10_weeps_42 rfl (by decide) rfl ?_
          refine gx_iinc (v := ((k + 1 : Nat) : Int)) (lv' := [(2, vI ((k + 1 : Nat) : Int)), (1, vI ((k : Nat) : Int)), (0, vR 279)]) 1 dX10_weeps_43 rfl (by omega) ⟨by omega, by omega⟩ (by decide) rfl ?_
          refine go_goto (tgt := 4) dX10_weeps_46 rfl ?_
          have e5 : ((k : Nat) : Int) = ((argX (fun e => M 284 (e + 34)) (k + 1) : Nat) : Int) := by (rw [argX_s]; first | (rw [if_pos (by omega)]; done) | (rw [if_neg (by omega)]; done))
          rw [e5]
          exact ih (k + 1) (by omega) (by omega) (by omega)

set_option maxHeartbeats 4000000 in
set_option maxRecDepth 100000 in
theorem ok_X10_weeps {w E : Nat} {M : inm} {Q : Int → Nat → rfm → inm → Prop} (hE : M 279 2 = (E : Int) ∧ 1 ≤ E ∧ E ≤ 5) (hQ : Q ((argX (fun e => M 284 (e + 34)) E : Nat) : Int) 303 (PP w) M) : OkI yX10_weeps cX10_weeps 3 0 0 0 (some .int) [vR 279] 303 (PP w) M Q := by
  refine OkI.of (by decide +kernel) (by decide +kernel) (Nat.le_of_ble_eq_true rfl) ?_
  refine go_eq (lv' := [(0, vR 279)]) rfl rfl rfl rfl rfl ?_
  have hE5 := hE.2
  refine go_iconst dX10_weeps_0 (by decide) ?_
  refine go_istore_n (lv' := [(1, vI (-1)), (0, vR 279)]) dX10_weeps_1 rfl (by decide) rfl ?_
  refine go_iconst dX10_weeps_2 (by decide) ?_
  refine go_istore_n (lv' := [(2, vI 0), (1, vI (-1)), (0, vR 279)]) dX10_weeps_3 rfl (by decide) rfl ?_
  refine go_iload_n 0 dX10_weeps_4 rfl rfl ?_
  refine go_aload_n 2 dX10_weeps_5 rfl rfl ?_
  refine gx_getI (v := ((E : Nat) : Int)) dX10_weeps_6 lk10_91.get kd_279 (by omega) rfl hE.1 ?_
  refine go_icmp_ge (tgt := 49) dX10_weeps_9 rfl (fun c1 => ?_) (fun c1 => ?_)
  · exact absurd c1 (by omega)
  · refine go_iload_n 1 dX10_weeps_12 rfl rfl ?_
    refine go_if_lt (tgt := 37) dX10_weeps_13 rfl (fun c2 => ?_) (fun c2 => ?_)
    · refine go_iload_n 0 dX10_weeps_37 rfl rfl ?_
      refine go_goto (tgt := 42) dX10_weeps_38 rfl ?_
      refine go_istore_n (lv' := [(1, vI 0), (2, vI 0), (0, vR 279)]) dX10_weeps_42 rfl (by decide) rfl ?_
      refine gx_iinc (v := 1) (lv' := [(2, vI 1), (1, vI 0), (0, vR 279)]) 1 dX10_weeps_43 rfl (by omega) ⟨by omega, by omega⟩ (by decide) rfl ?_
      refine go_goto (tgt := 4) dX10_weeps_46 rfl ?_
      refine go_lv [0, 1, 2] rfl ?_
      refine go_eq (lv' := [(2, vI 1), (1, vI ((argX (fun e => M 284 (e + 34)) 1 : Nat) : Int)), (0, vR 279)]) (by rw [argX_1]; rfl) rfl rfl rfl rfl ?_
      exact lp_X10_weeps hE hQ (E + 1) 1 (by omega) (by omega) (by omega)
    · exact absurd c2 (by decide)

set_option maxHeartbeats 4000000 in
set_option maxRecDepth 100000 in
theorem ok_X10_weeps_0 {w : Nat} {M : inm} {Q : Int → Nat → rfm → inm → Prop} (hE : M 279 2 = 0) (hQ : Q (-1) 303 (PP w) M) : OkI yX10_weeps cX10_weeps 3 0 0 0 (some .int) [vR 279] 303 (PP w) M Q := by
  refine OkI.of (by decide +kernel) (by decide +kernel) (Nat.le_of_ble_eq_true rfl) ?_
  refine go_eq (lv' := [(0, vR 279)]) rfl rfl rfl rfl rfl ?_
  refine go_iconst dX10_weeps_0 (by decide) ?_
  refine go_istore_n (lv' := [(1, vI (-1)), (0, vR 279)]) dX10_weeps_1 rfl (by decide) rfl ?_
  refine go_iconst dX10_weeps_2 (by decide) ?_
  refine go_istore_n (lv' := [(2, vI 0), (1, vI (-1)), (0, vR 279)]) dX10_weeps_3 rfl (by decide) rfl ?_
  refine go_iload_n 0 dX10_weeps_4 rfl rfl ?_
  refine go_aload_n 2 dX10_weeps_5 rfl rfl ?_
  refine gx_getI (v := 0) dX10_weeps_6 lk10_91.get kd_279 (by omega) rfl hE ?_
  refine go_icmp_ge (tgt := 49) dX10_weeps_9 rfl (fun c1 => ?_) (fun c1 => ?_)
  · refine go_iload_n 1 dX10_weeps_49 rfl rfl ?_
    refine go_iret dX10_weeps_50 rfl rfl ⟨_, rfl, ?_⟩
    exact hQ
  · exact absurd c1 (by omega)

set_option maxHeartbeats 4000000 in
set_option maxRecDepth 100000 in
theorem lp_X10_dryIn {w E : Nat} {M : inm} {Q : Int → Nat → rfm → inm → Prop} (hE : M 279 2 = (E : Int) ∧ E ≤ 5) (hT : ∀ e, e < E → 0 ≤ M 284 (e + 34) ∧ M 284 (e + 34) ≤ 9999) (hq : ∀ e, e < E → 1 ≤ M 281 e ∧ M 281 e ≤ 9) (hQ : Q (fo (dryG (fun e => M 284 (e + 34)) (fun e => M 281 e)) E 0) 303 (PP w) M) : ∀ (d k : Nat), E < k + d → k ≤ E → Go S0 yX10_dryIn cX10_dryIn 4 0 0 0 (some .int) 4 [(2, vI ((k : Nat) : Int)), (1, vI (fo (dryG (fun e => M 284 (e + 34)) (fun e => M 281 e)) k 0)), (0, vR 279)] [] 303 (PP w) M (fun v n P M => ∃ z, v = some (vI z) ∧ Q z n P M) := by
  have hE5 := hE.2
  intro d
  induction d with
  | zero => intro k h1 h2; exfalso; omega
  | succ d ih =>
    intro k h1 h2
    have hm := dry_in (T := fun e => M 284 (e + 34)) (q := fun e => M 281 e) k (fun e he => hT e (by omega)) (fun e he => hq e (by omega))
    refine go_iload_n 0 dX10_dryIn_4 rfl rfl ?_
    refine go_aload_n 2 dX10_dryIn_5 rfl rfl ?_
    refine gx_getI (v := ((E : Nat) : Int)) dX10_dryIn_6 lk10_91.get kd_279 (by omega) rfl hE.1 ?_
    refine go_icmp_ge (tgt := 55) dX10_dryIn_9 rfl (fun c1 => ?_) (fun c1 => ?_)
    · refine go_iload_n 1 dX10_dryIn_55 rfl rfl ?_
      refine go_iret dX10_dryIn_56 rfl rfl ⟨_, rfl, ?_⟩
      rw [show k = E by omega]
      exact hQ
    · refine go_aload_n 2 dX10_dryIn_12 rfl rfl ?_
      refine go_getR (r := 284) dX10_dryIn_13 lk10_22.get kd_279 (by omega) rfl (pp_279_8 w) ?_
      refine go_bipush dX10_dryIn_16 (by decide) (by decide) ?_
      refine go_iload_n 0 dX10_dryIn_18 rfl rfl ?_
      refine gx_iadd (v := ((k + 34 : Nat) : Int)) dX10_dryIn_19 (by omega) ⟨by omega, by omega⟩ ?_
      have f2 := hT k (by omega)
      refine gx_iaload (v := (M 284 (k + 34))) (k + 34) dX10_dryIn_20 kd_284 (by omega) ln_284 rfl (by omega) rfl ?_
      refine go_aload_n 2 dX10_dryIn_21 rfl rfl ?_
      refine go_getR (r := 281) dX10_dryIn_22 lk10_13.get kd_279 (by omega) rfl (pp_279_4 w) ?_
      refine go_iload_n 0 dX10_dryIn_25 rfl rfl ?_
      have f3 := hq k (by omega)
      refine gx_iaload (v := (M 281 k)) k dX10_dryIn_26 kd_281 (by omega) ln_281 rfl (by omega) rfl ?_
      refine gx_iadd (v := ((M 284 (k + 34)) + (M 281 k))) dX10_dryIn_27 rfl ⟨by omega, by omega⟩ ?_
      refine go_iconst dX10_dryIn_28 (by decide) ?_
      refine gx_isub (v := (((M 284 (k + 34)) + (M 281 k)) - 1)) dX10_dryIn_29 rfl ⟨by omega, by omega⟩ ?_
      refine go_aload_n 2 dX10_dryIn_30 rfl rfl ?_
      refine go_getR (r := 281) dX10_dryIn_31 lk10_13.get kd_279 (by omega) rfl (pp_279_4 w) ?_
      refine go_iload_n 0 dX10_dryIn_34 rfl rfl ?_
      have f4 := hq k (by omega)
      refine gx_iaload (v := (M 281 k)) k dX10_dryIn_35 kd_281 (by omega) ln_281 rfl (by omega) rfl ?_
      refine gx_idiv (v := ((((M 284 (k + 34)) + (M 281 k)) - 1) / (M 281 k))) dX10_dryIn_36 rfl (by omega) (by omega) ?_
      refine go_istore_n (lv' := [(3, vI ((((M 284 (k + 34)) + (M 281 k)) - 1) / (M 281 k))), (2, vI ((k : Nat) : Int)), (1, vI (fo (dryG (fun e => M 284 (e + 34)) (fun e => M 281 e)) k 0)), (0, vR 279)]) dX10_dryIn_37 rfl (by decide) rfl ?_
      refine go_iload_n 0 dX10_dryIn_38 rfl rfl ?_
      refine go_iload_n 2 dX10_dryIn_39 rfl rfl ?_
      refine go_icmp_le (tgt := 47) dX10_dryIn_40 rfl (fun c5 => ?_) (fun c5 => ?_)
      · refine go_iload_n 2 dX10_dryIn_47 rfl rfl ?_
        refine go_istore_n (lv' := [(1, vI (fo (dryG (fun e => M 284 (e + 34)) (fun e => M 281 e)) k 0)), (3, vI ((((M 284 (k + 34)) + (M 281 k)) - 1) / (M 281 k))), (2, vI ((k : Nat) : Int)), (0, vR 279)]) dX10_dryIn_48 rfl (by decide) rfl ?_
        refine gx_iinc (v := ((k + 1 : Nat) : Int)) (lv' := [(2, vI ((k + 1 : Nat) : Int)), (1, vI (fo (dryG (fun e => M 284 (e + 34)) (fun e => M 281 e)) k 0)), (3, vI ((((M 284 (k + 34)) + (M 281 k)) - 1) / (M 281 k))), (0, vR 279)]) 2 dX10_dryIn_49 rfl (by omega) ⟨by omega, by omega⟩ (by decide) rfl ?_
        refine go_goto (tgt := 4) dX10_dryIn_52 rfl ?_
        refine go_lv [0, 1, 3] rfl ?_
        have e6 : (fo (dryG (fun e => M 284 (e + 34)) (fun e => M 281 e)) k 0) = (fo (dryG (fun e => M 284 (e + 34)) (fun e => M 281 e)) (k + 1) 0) := by (rw [fo, dryG]; omega)
        rw [e6]
        exact ih (k + 1) (by omega) (by omega)
      · refine go_iload_n 0 dX10_dryIn_43 rfl rfl ?_
        refine go_goto (tgt := 48) dX10_dryIn_44 rfl ?_
        refine go_istore_n (lv' := [(1, vI ((((M 284 (k + 34)) + (M 281 k)) - 1) / (M 281 k))), (3, vI ((((M 284 (k + 34)) + (M 281 k)) - 1) / (M 281 k))), (2, vI ((k : Nat) : Int)), (0, vR 279)]) dX10_dryIn_48 rfl (by decide) rfl ?_
        refine gx_iinc (v := ((k + 1 : Nat) : Int)) (lv' := [(2, vI ((k + 1 : Nat) : Int)), (1, vI ((((M 284 (k + 34)) + (M 281 k)) - 1) / (M 281 k))), (3, vI ((((M 284 (k + 34)) + (M 281 k)) - 1) / (M 281 k))), (0, vR 279)]) 2 dX10_dryIn_49 rfl (by omega) ⟨by omega, by omega⟩ (by decide) rfl ?_
        refine go_goto (tgt := 4) dX10_dryIn_52 rfl ?_
        refine go_lv [0, 1, 3] rfl ?_
        have e7 : ((((M 284 (k + 34)) + (M 281 k)) - 1) / (M 281 k)) = (fo (dryG (fun e => M 284 (e + 34)) (fun e => M 281 e)) (k + 1) 0) := by (rw [fo, dryG]; omega)
        rw [e7]
        exact ih (k + 1) (by omega) (by omega)

set_option maxHeartbeats 4000000 in
set_option maxRecDepth 100000 in
theorem ok_X10_dryIn {w E : Nat} {M : inm} {Q : Int → Nat → rfm → inm → Prop} (hE : M 279 2 = (E : Int) ∧ E ≤ 5) (hT : ∀ e, e < E → 0 ≤ M 284 (e + 34) ∧ M 284 (e + 34) ≤ 9999) (hq : ∀ e, e < E → 1 ≤ M 281 e ∧ M 281 e ≤ 9) (hQ : Q (fo (dryG (fun e => M 284 (e + 34)) (fun e => M 281 e)) E 0) 303 (PP w) M) : OkI yX10_dryIn cX10_dryIn 4 0 0 0 (some .int) [vR 279] 303 (PP w) M Q := by
  refine OkI.of (by decide +kernel) (by decide +kernel) (Nat.le_of_ble_eq_true rfl) ?_
  refine go_eq (lv' := [(0, vR 279)]) rfl rfl rfl rfl rfl ?_
  refine go_iconst dX10_dryIn_0 (by decide) ?_
  refine go_istore_n (lv' := [(1, vI 0), (0, vR 279)]) dX10_dryIn_1 rfl (by decide) rfl ?_
  refine go_iconst dX10_dryIn_2 (by decide) ?_
  refine go_istore_n (lv' := [(2, vI 0), (1, vI 0), (0, vR 279)]) dX10_dryIn_3 rfl (by decide) rfl ?_
  exact lp_X10_dryIn hE hT hq hQ (E + 1) 0 (by omega) (by omega)

