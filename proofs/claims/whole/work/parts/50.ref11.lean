/-! ===== the reference: clauses ===== -/
/-- where the i-th KIND of a TYPE that begins at p is read -/
def posI (T : Nat → Int) (n p : Nat) : Nat → Nat
  | 0 => p
  | i + 1 => numP T n (posI T n p i) + 1
/-- the last KIND of a TYPE, or the first that has a FAULT -/
def tyC (T : Nat → Int) (n p : Nat) : Nat → Nat → Nat
  | 0, c => c
  | d + 1, c => if c + 1 < 8 ∧ nF T n (posI T n p c) 0 4 = 0 ∧ numP T n (posI T n p c) < n ∧ T (numP T n (posI T n p c)) = 44 then tyC T n p d (c + 1) else c
def tyL (T : Nat → Int) (n p : Nat) : Nat := tyC T n p 8 0
def OkC (T : Nat → Int) (n p i : Nat) : Prop := nF T n (posI T n p i) 0 4 = 0 ∧ numP T n (posI T n p i) < n ∧ T (numP T n (posI T n p i)) = 44
theorem tyC_eq {T : Nat → Int} {n p c : Nat} (h8 : c < 8) (hi : ∀ i, i < c → OkC T n p i) (hc : ¬ (c + 1 < 8 ∧ OkC T n p c)) : tyL T n p = c := by
  have q : ∀ d k, k ≤ c → c < k + d → tyC T n p d k = c := by
    intro d
    induction d with
    | zero => intro k h1 h2; exfalso; omega
    | succ d ih =>
      intro k h1 h2
      rw [tyC]
      by_cases e : k = c
      · subst e
        exact if_neg hc
      · rw [if_pos ⟨by omega, hi k (by omega)⟩]
        exact ih (k + 1) (by omega) (by omega)
  exact q 8 0 (by omega) (by omega)
theorem posI_in {T : Nat → Int} {n p : Nat} (hp : p ≤ n) : ∀ c, (∀ i, i < c → OkC T n p i) → posI T n p c ≤ n
  | 0, _ => hp
  | c + 1, h => by have := (h c (by omega)).2.1; show numP T n (posI T n p c) + 1 ≤ n; omega
/-- the rest of a clause: its FAULT, where, and where it ends -/
def bdF (T : Nat → Int) (n p : Nat) (c : Int) : Int := if c = 109 then nF T n p 0 99 else if c = 108 then (if nF T n p 0 4 = 0 then nF T n (numE T n p) 1 20 else nF T n p 0 4) else if c = 101 then (if nF T n p 0 9 = 0 then nF T n (numE T n p) 1 9 else nF T n p 0 9) else nF T n (posI T n p (tyL T n p)) 0 4
def bdB (T : Nat → Int) (n p : Nat) (c : Int) : Nat := if c = 109 then numB T n p else if c = 108 then (if nF T n p 0 4 = 0 then numB T n (numE T n p) else numB T n p) else if c = 101 then (if nF T n p 0 9 = 0 then numB T n (numE T n p) else numB T n p) else numB T n (posI T n p (tyL T n p))
def bdE (T : Nat → Int) (n p : Nat) (c : Int) : Nat := if c = 109 then numP T n p else if c = 108 ∨ c = 101 then numP T n (numE T n p) else numP T n (posI T n p (tyL T n p))
/-- what the rest of a clause without a FAULT has written -/
def DS (M M' : inm) (T : Nat → Int) (n p : Nat) (c : Int) (L E Y : Nat) : Prop :=
  Fr M M' ∧ M' 279 19 = M 279 19 ∧ (∃ q : Nat, M' 279 20 = (q : Int) ∧ q ≤ n ∧ skp T n q = bdE T n p c) ∧
  M' 279 23 = (if c = 109 then nV T n p else M 279 23) ∧
  M' 279 24 = (if c = 108 then ((L + 1 : Nat) : Int) else M 279 24) ∧
  M' 279 27 = (if c = 101 then ((E + 1 : Nat) : Int) else M 279 27) ∧
  M' 279 30 = (if c = 116 then ((Y + 1 : Nat) : Int) else M 279 30) ∧
  (∀ j, M' 291 j = if c = 108 ∧ j = L then nV T n p else M 291 j) ∧
  (∀ j, M' 292 j = if c = 108 ∧ j = L then nV T n (numE T n p) else M 292 j) ∧
  (∀ j, M' 293 j = if c = 101 ∧ j = E then nV T n p else M 293 j) ∧
  (∀ j, M' 294 j = if c = 101 ∧ j = E then nV T n (numE T n p) else M 294 j) ∧
  (∀ j, M' 295 j = if c = 116 ∧ j = Y then ((tyL T n p + 1 : Nat) : Int) else M 295 j) ∧
  (∀ j, (c = 116 → j < 8 * Y) → M' 296 j = M 296 j) ∧
  (c = 116 → ∀ i, i ≤ tyL T n p → M' 296 (8 * Y + i) = nV T n (posI T n p i))
set_option maxHeartbeats 4000000 in
set_option maxRecDepth 100000 in
theorem ok_X10_takeMiddle {w n p : Nat} {T : Nat → Int} {M : inm} {Q : Int → Nat → rfm → inm → Prop} (hT : (fun j => M 290 j) = T) (hn : M 279 18 = (n : Int)) (hp : M 279 20 = (p : Int)) (h240 : n ≤ 240) (hpn : p ≤ n) (ht : ∀ j, j < n → 0 ≤ T j ∧ T j ≤ 255) (gF : ¬ bdF T n p 109 = 0 → ∀ M' : inm, Fr M M' → M' 279 19 = ((bdB T n p 109 : Nat) : Int) → Q (bdF T n p 109) 303 (PP w) M') (gS : bdF T n p 109 = 0 → ∀ M' : inm, DS M M' T n p 109 0 0 0 → Q 0 303 (PP w) M') : OkI yX10_takeMiddle cX10_takeMiddle 2 2 0 0 (some .int) [vR 279] 303 (PP w) M Q := by
  refine OkI.of (by decide +kernel) (by decide +kernel) (Nat.le_of_ble_eq_true rfl) ?_
  refine go_eq (lv' := [(0, vR 279)]) rfl rfl rfl rfl rfl ?_
  refine go_aload_n 0 dX10_takeMiddle_0 rfl rfl ?_
  refine go_iconst dX10_takeMiddle_1 (by decide) ?_
  refine go_bipush dX10_takeMiddle_2 (by decide) (by decide) ?_
  refine go_callVI (av := [vI 0, vI 99]) (st := []) (a := 279) (mc2 := 0) (ms2 := 0) dX10_takeMiddle_4 cw10_122 (by decide) rfl rfl (Nat.le_of_ble_eq_true rfl) rfl rfl kd_279 ⟨_, _, rfl⟩ (by decide) (by omega) (tn_T (n := n) (p := p) (T := T) (M := M) hT hn hp h240 (by omega) ht (fun q2 N1 q3 q4 => ?_) (fun q2 N1 q5 q6 q7 => ?_))
  · have q8 := numE_in (T := T) (n := n) (p := p) (by omega)
    have q8b := nF_in (T := T) (n := n) (p := p) (lo := 0) (hi := 99)
    refine go_istore_n (lv' := [(1, vI (nF T n p 0 99)), (0, vR 279)]) dX10_takeMiddle_7 rfl (by decide) rfl ?_
    refine go_aload_n 1 dX10_takeMiddle_8 rfl rfl ?_
    refine go_aload_n 1 dX10_takeMiddle_9 rfl rfl ?_
    refine gx_getI (v := (N1 279 21)) dX10_takeMiddle_10 lk10_119.get kd_279 (by omega) rfl rfl ?_
    refine go_putI dX10_takeMiddle_13 (Or.inl lk10_125) kd_279 (by omega) rfl (Or.inl rfl) ?_
    refine go_iload_n 0 dX10_takeMiddle_16 rfl rfl ?_
    refine go_iret dX10_takeMiddle_17 rfl rfl ⟨_, rfl, ?_⟩
    have hb : bdF T n p 109 = nF T n p 0 99 := by unfold bdF; rw [if_pos rfl]
    have hb2 : bdB T n p 109 = numB T n p := by unfold bdB; rw [if_pos rfl]
    rw [hb, hb2] at gF
    exact gF (by omega) _ (((Fr.rf M).trans q3.fr).up (by omega)) ((up2_ne (by omega)).trans q4)
  · have q8 := numE_in (T := T) (n := n) (p := p) (by omega)
    have q8b := nF_in (T := T) (n := n) (p := p) (lo := 0) (hi := 99)
    refine go_istore_n (lv' := [(1, vI 0), (0, vR 279)]) dX10_takeMiddle_7 rfl (by decide) rfl ?_
    refine go_aload_n 1 dX10_takeMiddle_8 rfl rfl ?_
    refine go_aload_n 1 dX10_takeMiddle_9 rfl rfl ?_
    refine gx_getI (v := (nV T n p)) dX10_takeMiddle_10 lk10_119.get kd_279 (by omega) rfl q7 ?_
    refine go_putI dX10_takeMiddle_13 (Or.inl lk10_125) kd_279 (by omega) rfl (Or.inl rfl) ?_
    refine go_iload_n 0 dX10_takeMiddle_16 rfl rfl ?_
    refine go_iret dX10_takeMiddle_17 rfl rfl ⟨_, rfl, ?_⟩
    have hb : bdF T n p 109 = 0 := by unfold bdF; rw [if_pos rfl]; assumption
    exact gS hb _ ⟨(((Fr.rf M).trans q5.fr).up (by omega)), ((up2_ne (by omega)).trans (q5 _ _ (by omega))), ⟨numE T n p, ((up2_ne (by omega)).trans q6), by omega, by unfold bdE; rw [if_pos rfl]; rfl⟩, (by rw [if_pos rfl]; exact up2_same), (by rw [if_neg (by decide)]; exact ((up2_ne (by omega)).trans (q5 _ _ (by omega)))), (by rw [if_neg (by decide)]; exact ((up2_ne (by omega)).trans (q5 _ _ (by omega)))), (by rw [if_neg (by decide)]; exact ((up2_ne (by omega)).trans (q5 _ _ (by omega)))), (fun j => by rw [if_neg (by omega)]; exact ((up2_ne (by omega)).trans (q5 _ _ (by omega)))), (fun j => by rw [if_neg (by omega)]; exact ((up2_ne (by omega)).trans (q5 _ _ (by omega)))), (fun j => by rw [if_neg (by omega)]; exact ((up2_ne (by omega)).trans (q5 _ _ (by omega)))), (fun j => by rw [if_neg (by omega)]; exact ((up2_ne (by omega)).trans (q5 _ _ (by omega)))), (fun j => by rw [if_neg (by omega)]; exact ((up2_ne (by omega)).trans (q5 _ _ (by omega)))), (fun j _ => ((up2_ne (by omega)).trans (q5 _ _ (by omega)))), (fun e => absurd e (by decide))⟩

set_option maxHeartbeats 4000000 in
set_option maxRecDepth 100000 in
theorem ok_X10_takeLayer {w n p L : Nat} {T : Nat → Int} {M : inm} {Q : Int → Nat → rfm → inm → Prop} (hT : (fun j => M 290 j) = T) (hn : M 279 18 = (n : Int)) (hp : M 279 20 = (p : Int)) (h240 : n ≤ 240) (hpn : p ≤ n) (ht : ∀ j, j < n → 0 ≤ T j ∧ T j ≤ 255) (hL : M 279 24 = (L : Int) ∧ L < 12) (gF : ¬ bdF T n p 108 = 0 → ∀ M' : inm, Fr M M' → M' 279 19 = ((bdB T n p 108 : Nat) : Int) → Q (bdF T n p 108) 303 (PP w) M') (gS : bdF T n p 108 = 0 → ∀ M' : inm, DS M M' T n p 108 L 0 0 → Q 0 303 (PP w) M') : OkI yX10_takeLayer cX10_takeLayer 2 2 0 0 (some .int) [vR 279] 303 (PP w) M Q := by
  refine OkI.of (by decide +kernel) (by decide +kernel) (Nat.le_of_ble_eq_true rfl) ?_
  refine go_eq (lv' := [(0, vR 279)]) rfl rfl rfl rfl rfl ?_
  refine go_aload_n 0 dX10_takeLayer_0 rfl rfl ?_
  refine go_iconst dX10_takeLayer_1 (by decide) ?_
  refine go_iconst dX10_takeLayer_2 (by decide) ?_
  refine go_callVI (av := [vI 0, vI 4]) (st := []) (a := 279) (mc2 := 0) (ms2 := 0) dX10_takeLayer_3 cw10_122 (by decide) rfl rfl (Nat.le_of_ble_eq_true rfl) rfl rfl kd_279 ⟨_, _, rfl⟩ (by decide) (by omega) (tn_T (n := n) (p := p) (T := T) (M := M) hT hn hp h240 (by omega) ht (fun q2 N1 q3 q4 => ?_) (fun q2 N1 q5 q6 q7 => ?_))
  · have q8 := numE_in (T := T) (n := n) (p := p) (by omega)
    have q8b := nF_in (T := T) (n := n) (p := p) (lo := 0) (hi := 4)
    refine go_istore_n (lv' := [(1, vI (nF T n p 0 4)), (0, vR 279)]) dX10_takeLayer_6 rfl (by decide) rfl ?_
    refine go_iload_n 0 dX10_takeLayer_7 rfl rfl ?_
    refine go_if_le (tgt := 13) dX10_takeLayer_8 rfl (fun c9 => ?_) (fun c9 => ?_)
    · exact absurd c9 (by omega)
    · refine go_iload_n 0 dX10_takeLayer_11 rfl rfl ?_
      refine go_iret dX10_takeLayer_12 rfl rfl ⟨_, rfl, ?_⟩
      have hb : bdF T n p 108 = nF T n p 0 4 := by unfold bdF; rw [if_neg (by decide), if_pos rfl]; rw [if_neg (by assumption)]
      have hb2 : bdB T n p 108 = numB T n p := by unfold bdB; rw [if_neg (by decide), if_pos rfl]; rw [if_neg (by assumption)]
      rw [hb, hb2] at gF
      exact gF (by omega) _ ((Fr.rf M).trans q3.fr) q4
  · have q8 := numE_in (T := T) (n := n) (p := p) (by omega)
    have q8b := nF_in (T := T) (n := n) (p := p) (lo := 0) (hi := 4)
    refine go_istore_n (lv' := [(1, vI 0), (0, vR 279)]) dX10_takeLayer_6 rfl (by decide) rfl ?_
    refine go_iload_n 0 dX10_takeLayer_7 rfl rfl ?_
    refine go_if_le (tgt := 13) dX10_takeLayer_8 rfl (fun c10 => ?_) (fun c10 => ?_)
    · refine go_aload_n 1 dX10_takeLayer_13 rfl rfl ?_
      refine go_getR (r := 291) dX10_takeLayer_14 lk10_47.get kd_279 (by omega) rfl (pp_279_25 w) ?_
      refine go_aload_n 1 dX10_takeLayer_17 rfl rfl ?_
      refine gx_getI (v := ((L : Nat) : Int)) dX10_takeLayer_18 lk10_128.get kd_279 (by omega) rfl (((q5 _ _ (by omega))).trans hL.1) ?_
      refine go_aload_n 1 dX10_takeLayer_21 rfl rfl ?_
      refine gx_getI (v := (nV T n p)) dX10_takeLayer_22 lk10_119.get kd_279 (by omega) rfl q7 ?_
      refine gx_iastore L dX10_takeLayer_25 kd_291 (by omega) ln_291 rfl (by omega) ?_
      refine go_aload_n 1 dX10_takeLayer_26 rfl rfl ?_
      refine go_iconst dX10_takeLayer_27 (by decide) ?_
      refine go_bipush dX10_takeLayer_28 (by decide) (by decide) ?_
      refine go_callVI (av := [vI 1, vI 20]) (st := []) (a := 279) (mc2 := 0) (ms2 := 0) dX10_takeLayer_30 cw10_122 (by decide) rfl rfl (Nat.le_of_ble_eq_true rfl) rfl rfl kd_279 ⟨_, _, rfl⟩ (by decide) (by omega) (tn_T (n := n) (p := numE T n p) (T := T) (M := (up2 N1 291 L (nV T n p))) ((funext (fun j => ((up2_ne (by omega)).trans (q5 _ _ (by omega))))).trans hT) ((up2_ne (by omega)).trans (((q5 _ _ (by omega))).trans hn)) ((up2_ne (by omega)).trans q6) h240 (by omega) ht (fun q12 N11 q13 q14 => ?_) (fun q12 N11 q15 q16 q17 => ?_))
      · have q18 := numE_in (T := T) (n := n) (p := numE T n p) (by omega)
        have q18b := nF_in (T := T) (n := n) (p := numE T n p) (lo := 1) (hi := 20)
        refine go_istore_n (lv' := [(1, vI (nF T n (numE T n p) 1 20)), (0, vR 279)]) dX10_takeLayer_33 rfl (by decide) rfl ?_
        refine go_aload_n 1 dX10_takeLayer_34 rfl rfl ?_
        refine go_getR (r := 292) dX10_takeLayer_35 lk10_50.get kd_279 (by omega) rfl (pp_279_26 w) ?_
        refine go_aload_n 1 dX10_takeLayer_38 rfl rfl ?_
        refine gx_getI (v := ((L : Nat) : Int)) dX10_takeLayer_39 lk10_128.get kd_279 (by omega) rfl (((q13 _ _ (by omega))).trans (((up2_ne (by omega)).trans (((q5 _ _ (by omega))).trans hL.1)))) ?_
        refine go_aload_n 1 dX10_takeLayer_42 rfl rfl ?_
        refine gx_getI (v := (N11 279 21)) dX10_takeLayer_43 lk10_119.get kd_279 (by omega) rfl rfl ?_
        refine gx_iastore L dX10_takeLayer_46 kd_292 (by omega) ln_292 rfl (by omega) ?_
        refine go_aload_n 1 dX10_takeLayer_47 rfl rfl ?_
        refine go_dup dX10_takeLayer_48 rfl ?_
        refine gx_getI (v := ((L : Nat) : Int)) dX10_takeLayer_49 lk10_128.get kd_279 (by omega) rfl ((up2_ne (by omega)).trans (((q13 _ _ (by omega))).trans (((up2_ne (by omega)).trans (((q5 _ _ (by omega))).trans hL.1))))) ?_
        refine go_iconst dX10_takeLayer_52 (by decide) ?_
        refine gx_iadd (v := ((L + 1 : Nat) : Int)) dX10_takeLayer_53 (by omega) ⟨by omega, by omega⟩ ?_
        refine go_putI dX10_takeLayer_54 (Or.inl lk10_128) kd_279 (by omega) rfl (Or.inl rfl) ?_
        refine go_iload_n 0 dX10_takeLayer_57 rfl rfl ?_
        refine go_iret dX10_takeLayer_58 rfl rfl ⟨_, rfl, ?_⟩
        have hb : bdF T n p 108 = nF T n (numE T n p) 1 20 := by unfold bdF; rw [if_neg (by decide), if_pos rfl]; rw [if_pos (by assumption)]
        have hb2 : bdB T n p 108 = numB T n (numE T n p) := by unfold bdB; rw [if_neg (by decide), if_pos rfl]; rw [if_pos (by assumption)]
        rw [hb, hb2] at gF
        exact gF (by omega) _ ((((((Fr.rf M).trans q5.fr).up (by omega)).trans q13.fr).up (by omega)).up (by omega)) ((up2_ne (by omega)).trans ((up2_ne (by omega)).trans q14))
      · have q18 := numE_in (T := T) (n := n) (p := numE T n p) (by omega)
        have q18b := nF_in (T := T) (n := n) (p := numE T n p) (lo := 1) (hi := 20)
        refine go_istore_n (lv' := [(1, vI 0), (0, vR 279)]) dX10_takeLayer_33 rfl (by decide) rfl ?_
        refine go_aload_n 1 dX10_takeLayer_34 rfl rfl ?_
        refine go_getR (r := 292) dX10_takeLayer_35 lk10_50.get kd_279 (by omega) rfl (pp_279_26 w) ?_
        refine go_aload_n 1 dX10_takeLayer_38 rfl rfl ?_
        refine gx_getI (v := ((L : Nat) : Int)) dX10_takeLayer_39 lk10_128.get kd_279 (by omega) rfl (((q15 _ _ (by omega))).trans (((up2_ne (by omega)).trans (((q5 _ _ (by omega))).trans hL.1)))) ?_
        refine go_aload_n 1 dX10_takeLayer_42 rfl rfl ?_
        refine gx_getI (v := (nV T n (numE T n p))) dX10_takeLayer_43 lk10_119.get kd_279 (by omega) rfl q17 ?_
        refine gx_iastore L dX10_takeLayer_46 kd_292 (by omega) ln_292 rfl (by omega) ?_
        refine go_aload_n 1 dX10_takeLayer_47 rfl rfl ?_
        refine go_dup dX10_takeLayer_48 rfl ?_
        refine gx_getI (v := ((L : Nat) : Int)) dX10_takeLayer_49 lk10_128.get kd_279 (by omega) rfl ((up2_ne (by omega)).trans (((q15 _ _ (by omega))).trans (((up2_ne (by omega)).trans (((q5 _ _ (by omega))).trans hL.1))))) ?_
        refine go_iconst dX10_takeLayer_52 (by decide) ?_
        refine gx_iadd (v := ((L + 1 : Nat) : Int)) dX10_takeLayer_53 (by omega) ⟨by omega, by omega⟩ ?_
        refine go_putI dX10_takeLayer_54 (Or.inl lk10_128) kd_279 (by omega) rfl (Or.inl rfl) ?_
        refine go_iload_n 0 dX10_takeLayer_57 rfl rfl ?_
        refine go_iret dX10_takeLayer_58 rfl rfl ⟨_, rfl, ?_⟩
        have hb : bdF T n p 108 = 0 := by unfold bdF; rw [if_neg (by decide), if_pos rfl]; rw [if_pos (by assumption)]; assumption
        exact gS hb _ ⟨((((((Fr.rf M).trans q5.fr).up (by omega)).trans q15.fr).up (by omega)).up (by omega)), ((up2_ne (by omega)).trans ((up2_ne (by omega)).trans ((q15 _ _ (by omega)).trans ((up2_ne (by omega)).trans (q5 _ _ (by omega)))))), ⟨numE T n (numE T n p), ((up2_ne (by omega)).trans ((up2_ne (by omega)).trans q16)), by omega, by unfold bdE; rw [if_neg (by decide), if_pos (by decide)]; rfl⟩, (by rw [if_neg (by decide)]; exact ((up2_ne (by omega)).trans ((up2_ne (by omega)).trans ((q15 _ _ (by omega)).trans ((up2_ne (by omega)).trans (q5 _ _ (by omega))))))), (by rw [if_pos rfl]; exact up2_same), (by rw [if_neg (by decide)]; exact ((up2_ne (by omega)).trans ((up2_ne (by omega)).trans ((q15 _ _ (by omega)).trans ((up2_ne (by omega)).trans (q5 _ _ (by omega))))))), (by rw [if_neg (by decide)]; exact ((up2_ne (by omega)).trans ((up2_ne (by omega)).trans ((q15 _ _ (by omega)).trans ((up2_ne (by omega)).trans (q5 _ _ (by omega))))))), (fun j => by by_cases e : j = L; (rw [if_pos ⟨rfl, e⟩, e]; exact ((up2_ne (by omega)).trans ((up2_ne (by omega)).trans (((q15 _ _ (by omega))).trans up2_same)))); (rw [if_neg (by omega)]; exact ((up2_ne (by omega)).trans ((up2_ne (by omega)).trans ((q15 _ _ (by omega)).trans ((up2_ne (by omega)).trans (q5 _ _ (by omega)))))))), (fun j => by by_cases e : j = L; (rw [if_pos ⟨rfl, e⟩, e]; exact ((up2_ne (by omega)).trans up2_same)); (rw [if_neg (by omega)]; exact ((up2_ne (by omega)).trans ((up2_ne (by omega)).trans ((q15 _ _ (by omega)).trans ((up2_ne (by omega)).trans (q5 _ _ (by omega)))))))), (fun j => by rw [if_neg (by omega)]; exact ((up2_ne (by omega)).trans ((up2_ne (by omega)).trans ((q15 _ _ (by omega)).trans ((up2_ne (by omega)).trans (q5 _ _ (by omega))))))), (fun j => by rw [if_neg (by omega)]; exact ((up2_ne (by omega)).trans ((up2_ne (by omega)).trans ((q15 _ _ (by omega)).trans ((up2_ne (by omega)).trans (q5 _ _ (by omega))))))), (fun j => by rw [if_neg (by omega)]; exact ((up2_ne (by omega)).trans ((up2_ne (by omega)).trans ((q15 _ _ (by omega)).trans ((up2_ne (by omega)).trans (q5 _ _ (by omega))))))), (fun j _ => ((up2_ne (by omega)).trans ((up2_ne (by omega)).trans ((q15 _ _ (by omega)).trans ((up2_ne (by omega)).trans (q5 _ _ (by omega))))))), (fun e => absurd e (by decide))⟩
    · exact absurd c10 (by decide)

set_option maxHeartbeats 4000000 in
set_option maxRecDepth 100000 in
theorem ok_X10_takeExecutor {w n p E : Nat} {T : Nat → Int} {M : inm} {Q : Int → Nat → rfm → inm → Prop} (hT : (fun j => M 290 j) = T) (hn : M 279 18 = (n : Int)) (hp : M 279 20 = (p : Int)) (h240 : n ≤ 240) (hpn : p ≤ n) (ht : ∀ j, j < n → 0 ≤ T j ∧ T j ≤ 255) (hL : M 279 27 = (E : Int) ∧ E < 5) (gF : ¬ bdF T n p 101 = 0 → ∀ M' : inm, Fr M M' → M' 279 19 = ((bdB T n p 101 : Nat) : Int) → Q (bdF T n p 101) 303 (PP w) M') (gS : bdF T n p 101 = 0 → ∀ M' : inm, DS M M' T n p 101 0 E 0 → Q 0 303 (PP w) M') : OkI yX10_takeExecutor cX10_takeExecutor 2 2 0 0 (some .int) [vR 279] 303 (PP w) M Q := by
  refine OkI.of (by decide +kernel) (by decide +kernel) (Nat.le_of_ble_eq_true rfl) ?_
  refine go_eq (lv' := [(0, vR 279)]) rfl rfl rfl rfl rfl ?_
  refine go_aload_n 0 dX10_takeExecutor_0 rfl rfl ?_
  refine go_iconst dX10_takeExecutor_1 (by decide) ?_
  refine go_bipush dX10_takeExecutor_2 (by decide) (by decide) ?_
  refine go_callVI (av := [vI 0, vI 9]) (st := []) (a := 279) (mc2 := 0) (ms2 := 0) dX10_takeExecutor_4 cw10_122 (by decide) rfl rfl (Nat.le_of_ble_eq_true rfl) rfl rfl kd_279 ⟨_, _, rfl⟩ (by decide) (by omega) (tn_T (n := n) (p := p) (T := T) (M := M) hT hn hp h240 (by omega) ht (fun q2 N1 q3 q4 => ?_) (fun q2 N1 q5 q6 q7 => ?_))
  · have q8 := numE_in (T := T) (n := n) (p := p) (by omega)
    have q8b := nF_in (T := T) (n := n) (p := p) (lo := 0) (hi := 9)
    refine go_istore_n (lv' := [(1, vI (nF T n p 0 9)), (0, vR 279)]) dX10_takeExecutor_7 rfl (by decide) rfl ?_
    refine go_iload_n 0 dX10_takeExecutor_8 rfl rfl ?_
    refine go_if_le (tgt := 14) dX10_takeExecutor_9 rfl (fun c9 => ?_) (fun c9 => ?_)
    · exact absurd c9 (by omega)
    · refine go_iload_n 0 dX10_takeExecutor_12 rfl rfl ?_
      refine go_iret dX10_takeExecutor_13 rfl rfl ⟨_, rfl, ?_⟩
      have hb : bdF T n p 101 = nF T n p 0 9 := by unfold bdF; rw [if_neg (by decide), if_neg (by decide), if_pos rfl]; rw [if_neg (by assumption)]
      have hb2 : bdB T n p 101 = numB T n p := by unfold bdB; rw [if_neg (by decide), if_neg (by decide), if_pos rfl]; rw [if_neg (by assumption)]
      rw [hb, hb2] at gF
      exact gF (by omega) _ ((Fr.rf M).trans q3.fr) q4
  · have q8 := numE_in (T := T) (n := n) (p := p) (by omega)
    have q8b := nF_in (T := T) (n := n) (p := p) (lo := 0) (hi := 9)
    refine go_istore_n (lv' := [(1, vI 0), (0, vR 279)]) dX10_takeExecutor_7 rfl (by decide) rfl ?_
    refine go_iload_n 0 dX10_takeExecutor_8 rfl rfl ?_
    refine go_if_le (tgt := 14) dX10_takeExecutor_9 rfl (fun c10 => ?_) (fun c10 => ?_)
    · refine go_aload_n 1 dX10_takeExecutor_14 rfl rfl ?_
      refine go_getR (r := 293) dX10_takeExecutor_15 lk10_53.get kd_279 (by omega) rfl (pp_279_28 w) ?_
      refine go_aload_n 1 dX10_takeExecutor_18 rfl rfl ?_
      refine gx_getI (v := ((E : Nat) : Int)) dX10_takeExecutor_19 lk10_131.get kd_279 (by omega) rfl (((q5 _ _ (by omega))).trans hL.1) ?_
      refine go_aload_n 1 dX10_takeExecutor_22 rfl rfl ?_
      refine gx_getI (v := (nV T n p)) dX10_takeExecutor_23 lk10_119.get kd_279 (by omega) rfl q7 ?_
      refine gx_iastore E dX10_takeExecutor_26 kd_293 (by omega) ln_293 rfl (by omega) ?_
      refine go_aload_n 1 dX10_takeExecutor_27 rfl rfl ?_
      refine go_iconst dX10_takeExecutor_28 (by decide) ?_
      refine go_bipush dX10_takeExecutor_29 (by decide) (by decide) ?_
      refine go_callVI (av := [vI 1, vI 9]) (st := []) (a := 279) (mc2 := 0) (ms2 := 0) dX10_takeExecutor_31 cw10_122 (by decide) rfl rfl (Nat.le_of_ble_eq_true rfl) rfl rfl kd_279 ⟨_, _, rfl⟩ (by decide) (by omega) (tn_T (n := n) (p := numE T n p) (T := T) (M := (up2 N1 293 E (nV T n p))) ((funext (fun j => ((up2_ne (by omega)).trans (q5 _ _ (by omega))))).trans hT) ((up2_ne (by omega)).trans (((q5 _ _ (by omega))).trans hn)) ((up2_ne (by omega)).trans q6) h240 (by omega) ht (fun q12 N11 q13 q14 => ?_) (fun q12 N11 q15 q16 q17 => ?_))
      · have q18 := numE_in (T := T) (n := n) (p := numE T n p) (by omega)
        have q18b := nF_in (T := T) (n := n) (p := numE T n p) (lo := 1) (hi := 9)
        refine go_istore_n (lv' := [(1, vI (nF T n (numE T n p) 1 9)), (0, vR 279)]) dX10_takeExecutor_34 rfl (by decide) rfl ?_
        refine go_aload_n 1 dX10_takeExecutor_35 rfl rfl ?_
        refine go_getR (r := 294) dX10_takeExecutor_36 lk10_56.get kd_279 (by omega) rfl (pp_279_29 w) ?_
        refine go_aload_n 1 dX10_takeExecutor_39 rfl rfl ?_
        refine gx_getI (v := ((E : Nat) : Int)) dX10_takeExecutor_40 lk10_131.get kd_279 (by omega) rfl (((q13 _ _ (by omega))).trans (((up2_ne (by omega)).trans (((q5 _ _ (by omega))).trans hL.1)))) ?_
        refine go_aload_n 1 dX10_takeExecutor_43 rfl rfl ?_
        refine gx_getI (v := (N11 279 21)) dX10_takeExecutor_44 lk10_119.get kd_279 (by omega) rfl rfl ?_
        refine gx_iastore E dX10_takeExecutor_47 kd_294 (by omega) ln_294 rfl (by omega) ?_
        refine go_aload_n 1 dX10_takeExecutor_48 rfl rfl ?_
        refine go_dup dX10_takeExecutor_49 rfl ?_
        refine gx_getI (v := ((E : Nat) : Int)) dX10_takeExecutor_50 lk10_131.get kd_279 (by omega) rfl ((up2_ne (by omega)).trans (((q13 _ _ (by omega))).trans (((up2_ne (by omega)).trans (((q5 _ _ (by omega))).trans hL.1))))) ?_
        refine go_iconst dX10_takeExecutor_53 (by decide) ?_
        refine gx_iadd (v := ((E + 1 : Nat) : Int)) dX10_takeExecutor_54 (by omega) ⟨by omega, by omega⟩ ?_
        refine go_putI dX10_takeExecutor_55 (Or.inl lk10_131) kd_279 (by omega) rfl (Or.inl rfl) ?_
        refine go_iload_n 0 dX10_takeExecutor_58 rfl rfl ?_
        refine go_iret dX10_takeExecutor_59 rfl rfl ⟨_, rfl, ?_⟩
        have hb : bdF T n p 101 = nF T n (numE T n p) 1 9 := by unfold bdF; rw [if_neg (by decide), if_neg (by decide), if_pos rfl]; rw [if_pos (by assumption)]
        have hb2 : bdB T n p 101 = numB T n (numE T n p) := by unfold bdB; rw [if_neg (by decide), if_neg (by decide), if_pos rfl]; rw [if_pos (by assumption)]
        rw [hb, hb2] at gF
        exact gF (by omega) _ ((((((Fr.rf M).trans q5.fr).up (by omega)).trans q13.fr).up (by omega)).up (by omega)) ((up2_ne (by omega)).trans ((up2_ne (by omega)).trans q14))
      · have q18 := numE_in (T := T) (n := n) (p := numE T n p) (by omega)
        have q18b := nF_in (T := T) (n := n) (p := numE T n p) (lo := 1) (hi := 9)
        refine go_istore_n (lv' := [(1, vI 0), (0, vR 279)]) dX10_takeExecutor_34 rfl (by decide) rfl ?_
        refine go_aload_n 1 dX10_takeExecutor_35 rfl rfl ?_
        refine go_getR (r := 294) dX10_takeExecutor_36 lk10_56.get kd_279 (by omega) rfl (pp_279_29 w) ?_
        refine go_aload_n 1 dX10_takeExecutor_39 rfl rfl ?_
        refine gx_getI (v := ((E : Nat) : Int)) dX10_takeExecutor_40 lk10_131.get kd_279 (by omega) rfl (((q15 _ _ (by omega))).trans (((up2_ne (by omega)).trans (((q5 _ _ (by omega))).trans hL.1)))) ?_
        refine go_aload_n 1 dX10_takeExecutor_43 rfl rfl ?_
        refine gx_getI (v := (nV T n (numE T n p))) dX10_takeExecutor_44 lk10_119.get kd_279 (by omega) rfl q17 ?_
        refine gx_iastore E dX10_takeExecutor_47 kd_294 (by omega) ln_294 rfl (by omega) ?_
        refine go_aload_n 1 dX10_takeExecutor_48 rfl rfl ?_
        refine go_dup dX10_takeExecutor_49 rfl ?_
        refine gx_getI (v := ((E : Nat) : Int)) dX10_takeExecutor_50 lk10_131.get kd_279 (by omega) rfl ((up2_ne (by omega)).trans (((q15 _ _ (by omega))).trans (((up2_ne (by omega)).trans (((q5 _ _ (by omega))).trans hL.1))))) ?_
        refine go_iconst dX10_takeExecutor_53 (by decide) ?_
        refine gx_iadd (v := ((E + 1 : Nat) : Int)) dX10_takeExecutor_54 (by omega) ⟨by omega, by omega⟩ ?_
        refine go_putI dX10_takeExecutor_55 (Or.inl lk10_131) kd_279 (by omega) rfl (Or.inl rfl) ?_
        refine go_iload_n 0 dX10_takeExecutor_58 rfl rfl ?_
        refine go_iret dX10_takeExecutor_59 rfl rfl ⟨_, rfl, ?_⟩
        have hb : bdF T n p 101 = 0 := by unfold bdF; rw [if_neg (by decide), if_neg (by decide), if_pos rfl]; rw [if_pos (by assumption)]; assumption
        exact gS hb _ ⟨((((((Fr.rf M).trans q5.fr).up (by omega)).trans q15.fr).up (by omega)).up (by omega)), ((up2_ne (by omega)).trans ((up2_ne (by omega)).trans ((q15 _ _ (by omega)).trans ((up2_ne (by omega)).trans (q5 _ _ (by omega)))))), ⟨numE T n (numE T n p), ((up2_ne (by omega)).trans ((up2_ne (by omega)).trans q16)), by omega, by unfold bdE; rw [if_neg (by decide), if_pos (by decide)]; rfl⟩, (by rw [if_neg (by decide)]; exact ((up2_ne (by omega)).trans ((up2_ne (by omega)).trans ((q15 _ _ (by omega)).trans ((up2_ne (by omega)).trans (q5 _ _ (by omega))))))), (by rw [if_neg (by decide)]; exact ((up2_ne (by omega)).trans ((up2_ne (by omega)).trans ((q15 _ _ (by omega)).trans ((up2_ne (by omega)).trans (q5 _ _ (by omega))))))), (by rw [if_pos rfl]; exact up2_same), (by rw [if_neg (by decide)]; exact ((up2_ne (by omega)).trans ((up2_ne (by omega)).trans ((q15 _ _ (by omega)).trans ((up2_ne (by omega)).trans (q5 _ _ (by omega))))))), (fun j => by rw [if_neg (by omega)]; exact ((up2_ne (by omega)).trans ((up2_ne (by omega)).trans ((q15 _ _ (by omega)).trans ((up2_ne (by omega)).trans (q5 _ _ (by omega))))))), (fun j => by rw [if_neg (by omega)]; exact ((up2_ne (by omega)).trans ((up2_ne (by omega)).trans ((q15 _ _ (by omega)).trans ((up2_ne (by omega)).trans (q5 _ _ (by omega))))))), (fun j => by by_cases e : j = E; (rw [if_pos ⟨rfl, e⟩, e]; exact ((up2_ne (by omega)).trans ((up2_ne (by omega)).trans (((q15 _ _ (by omega))).trans up2_same)))); (rw [if_neg (by omega)]; exact ((up2_ne (by omega)).trans ((up2_ne (by omega)).trans ((q15 _ _ (by omega)).trans ((up2_ne (by omega)).trans (q5 _ _ (by omega)))))))), (fun j => by by_cases e : j = E; (rw [if_pos ⟨rfl, e⟩, e]; exact ((up2_ne (by omega)).trans up2_same)); (rw [if_neg (by omega)]; exact ((up2_ne (by omega)).trans ((up2_ne (by omega)).trans ((q15 _ _ (by omega)).trans ((up2_ne (by omega)).trans (q5 _ _ (by omega)))))))), (fun j => by rw [if_neg (by omega)]; exact ((up2_ne (by omega)).trans ((up2_ne (by omega)).trans ((q15 _ _ (by omega)).trans ((up2_ne (by omega)).trans (q5 _ _ (by omega))))))), (fun j _ => ((up2_ne (by omega)).trans ((up2_ne (by omega)).trans ((q15 _ _ (by omega)).trans ((up2_ne (by omega)).trans (q5 _ _ (by omega))))))), (fun e => absurd e (by decide))⟩
    · exact absurd c10 (by decide)

