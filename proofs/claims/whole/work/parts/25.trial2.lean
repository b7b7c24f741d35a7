/-! ===== Trial: parts ===== -/
def gw (S R : Nat → Int) (f e : Nat) : Int := max (S e - S f) (R e)
def fpe (S R : Nat → Int) (f n : Nat) : Nat := fo (fun j b => if gw S R f (f + 2 + j) < gw S R f b then f + 2 + j else b) n (f + 1)
theorem fpe_in {S R : Nat → Int} {f : Nat} : ∀ n, f + 1 ≤ fpe S R f n ∧ fpe S R f n ≤ f + 1 + n
  | 0 => ⟨Nat.le_refl _, Nat.le_refl _⟩
  | n + 1 => by
    have ih := fpe_in (S := S) (R := R) (f := f) n
    unfold fpe at ih ⊢
    rw [fo]
    split <;> omega
theorem fpe_s {S R : Nat → Int} {f n : Nat} : fpe S R f (n + 1) = if gw S R f (f + 2 + n) < gw S R f (fpe S R f n) then f + 2 + n else fpe S R f n := rfl
theorem fpe_congr {S R S' R' : Nat → Int} {f : Nat} : ∀ n, (∀ j, f ≤ j → j ≤ f + 1 + n → S j = S' j) → (∀ j, f + 1 ≤ j → j ≤ f + 1 + n → R j = R' j) → fpe S R f n = fpe S' R' f n
  | 0, _, _ => rfl
  | n + 1, h1, h2 => by
    have ih := fpe_congr n (fun j a b => h1 j a (by omega)) (fun j a b => h2 j a (by omega))
    have hb := fpe_in (S := S') (R := R') (f := f) n
    rw [fpe_s, fpe_s, ih]
    unfold gw
    rw [h1 f (by omega) (by omega), h1 (f + 2 + n) (by omega) (by omega), h2 (f + 2 + n) (by omega) (by omega), h1 (fpe S' R' f n) (by omega) (by omega), h2 (fpe S' R' f n) (by omega) (by omega)]
/-- the least greatest STING of q + 1 parts from j on -/
def PWF (S : Nat → Int) (L : Nat) : Nat → Nat → Int
  | 0 => fun j => S L - S j
  | q + 1 => fun j => gw S (PWF S L q) j (fpe S (PWF S L q) j (L - (q + 2) + 1 - (j + 1)))
/-- where the first of q + 1 parts ends -/
def FFp (S : Nat → Int) (L : Nat) : Nat → Nat
  | 0 => L
  | q + 1 => fpe S (PWF S L q) 0 (L - (q + 2) + 1 - 1)
set_option maxHeartbeats 4000000 in
set_option maxRecDepth 100000 in
theorem ok_X8_greatestWith {w f e : Nat} {M : inm} {Q : Int → Nat → rfm → inm → Prop} (hfe : f ≤ e) (he : e ≤ 12) (h1 : 0 ≤ M 275 e ∧ M 275 e ≤ 1000) (h2 : 0 ≤ M 275 f ∧ M 275 f ≤ 1000) (hQ : Q (gw (fun i => M 275 i) (fun i => M 274 i) f e) 303 (PP w) M) : OkI yX8_greatestWith cX8_greatestWith 3 1 0 0 (some .int) [vR 273, vI ((f : Nat) : Int), vI ((e : Nat) : Int)] 303 (PP w) M Q := by
  refine OkI.of (by decide +kernel) (by decide +kernel) (Nat.le_of_ble_eq_true rfl) ?_
  refine go_eq (lv' := [(0, vR 273), (1, vI ((f : Nat) : Int)), (2, vI ((e : Nat) : Int))]) rfl rfl rfl rfl rfl ?_
  refine go_iload_n 1 dX8_greatestWith_0 rfl rfl ?_
  refine go_if_lt (tgt := 15) dX8_greatestWith_1 rfl (fun c1 => ?_) (fun c1 => ?_)
  · exact absurd c1 (by omega)
  · refine go_iload_n 2 dX8_greatestWith_4 rfl rfl ?_
    refine go_iload_n 1 dX8_greatestWith_5 rfl rfl ?_
    refine go_icmp_lt (tgt := 15) dX8_greatestWith_6 rfl (fun c2 => ?_) (fun c2 => ?_)
    · exact absurd c2 (by omega)
    · refine go_iload_n 2 dX8_greatestWith_9 rfl rfl ?_
      refine go_bipush dX8_greatestWith_10 (by decide) (by decide) ?_
      refine go_icmp_le (tgt := 17) dX8_greatestWith_12 rfl (fun c3 => ?_) (fun c3 => ?_)
      · refine go_aload_n 0 dX8_greatestWith_17 rfl rfl ?_
        refine go_getR (r := 275) dX8_greatestWith_18 lk8_15.get kd_273 (by omega) rfl (pp_273_1 w) ?_
        refine go_iload_n 2 dX8_greatestWith_21 rfl rfl ?_
        refine gx_iaload (v := (M 275 e)) e dX8_greatestWith_22 kd_275 (by omega) ln_275 rfl (by omega) rfl ?_
        refine go_aload_n 0 dX8_greatestWith_23 rfl rfl ?_
        refine go_getR (r := 275) dX8_greatestWith_24 lk8_15.get kd_273 (by omega) rfl (pp_273_1 w) ?_
        refine go_iload_n 1 dX8_greatestWith_27 rfl rfl ?_
        refine gx_iaload (v := (M 275 f)) f dX8_greatestWith_28 kd_275 (by omega) ln_275 rfl (by omega) rfl ?_
        refine gx_isub (v := ((M 275 e) - (M 275 f))) dX8_greatestWith_29 rfl ⟨by omega, by omega⟩ ?_
        refine go_aload_n 0 dX8_greatestWith_30 rfl rfl ?_
        refine go_getR (r := 274) dX8_greatestWith_31 lk8_9.get kd_273 (by omega) rfl (pp_273_0 w) ?_
        refine go_iload_n 2 dX8_greatestWith_34 rfl rfl ?_
        refine gx_iaload (v := (M 274 e)) e dX8_greatestWith_35 kd_274 (by omega) ln_274 rfl (by omega) rfl ?_
        refine gx_max (v := (max ((M 275 e) - (M 275 f)) (M 274 e))) dX8_greatestWith_36 mm8_51 (by decide) (Nat.le_of_ble_eq_true rfl) rfl ?_
        refine go_iret dX8_greatestWith_39 rfl rfl ⟨_, rfl, ?_⟩
        exact hQ
      · exact absurd c3 (by omega)

set_option maxHeartbeats 4000000 in
set_option maxRecDepth 100000 in
theorem lp_X8_firstPartEnd {w f l n : Nat} {M : inm} {Q : Int → Nat → rfm → inm → Prop} (hl : l = f + 1 + n) (hl12 : l ≤ 12) (hS : ∀ i, f ≤ i → i ≤ l → 0 ≤ M 275 i ∧ M 275 i ≤ 1000) (hQ : Q (((fpe (fun i => M 275 i) (fun i => M 274 i) f n) : Nat) : Int) 303 (PP w) M) : ∀ (d k : Nat), n < k + d → k ≤ n → Go S0 yX8_firstPartEnd cX8_firstPartEnd 5 2 0 0 (some .int) 9 [(4, vI ((f + 2 + k : Nat) : Int)), (3, vI (((fpe (fun i => M 275 i) (fun i => M 274 i) f k) : Nat) : Int)), (0, vR 273), (1, vI ((f : Nat) : Int)), (2, vI ((l : Nat) : Int))] [] 303 (PP w) M (fun v n P M => ∃ z, v = some (vI z) ∧ Q z n P M) := by
  intro d
  induction d with
  | zero => intro k h1 h2; exfalso; omega
  | succ d ih =>
    intro k h1 h2
    have hb := fpe_in (S := (fun i => M 275 i)) (R := (fun i => M 274 i)) (f := f) k
    refine go_iload 0 dX8_firstPartEnd_9 rfl ?_
    refine go_iload_n 4 dX8_firstPartEnd_11 rfl rfl ?_
    refine go_icmp_gt (tgt := 40) dX8_firstPartEnd_12 rfl (fun c1 => ?_) (fun c1 => ?_)
    · refine go_iload_n 1 dX8_firstPartEnd_40 rfl rfl ?_
      refine go_iret dX8_firstPartEnd_41 rfl rfl ⟨_, rfl, ?_⟩
      rw [show k = n by omega]
      exact hQ
    · refine go_aload_n 2 dX8_firstPartEnd_15 rfl rfl ?_
      refine go_iload_n 3 dX8_firstPartEnd_16 rfl rfl ?_
      refine go_iload 0 dX8_firstPartEnd_17 rfl ?_
      refine go_callVI (av := [vI ((f : Nat) : Int), vI ((f + 2 + k : Nat) : Int)]) (st := []) (a := 273) (mc2 := 0) (ms2 := 0) dX8_firstPartEnd_19 cw8_48 (by decide) rfl rfl (Nat.le_of_ble_eq_true rfl) rfl rfl kd_273 ⟨_, _, rfl⟩ (by decide) (by omega) (ok_X8_greatestWith (f := f) (e := f + 2 + k) (by omega) (by omega) (hS (f + 2 + k) (by omega) (by omega)) (hS f (by omega) (by omega)) ?_)
      refine go_aload_n 2 dX8_firstPartEnd_22 rfl rfl ?_
      refine go_iload_n 3 dX8_firstPartEnd_23 rfl rfl ?_
      refine go_iload_n 1 dX8_firstPartEnd_24 rfl rfl ?_
      refine go_callVI (av := [vI ((f : Nat) : Int), vI (((fpe (fun i => M 275 i) (fun i => M 274 i) f k) : Nat) : Int)]) (st := [vI (gw (fun i => M 275 i) (fun i => M 274 i) f (f + 2 + k))]) (a := 273) (mc2 := 0) (ms2 := 0) dX8_firstPartEnd_25 cw8_48 (by decide) rfl rfl (Nat.le_of_ble_eq_true rfl) rfl rfl kd_273 ⟨_, _, rfl⟩ (by decide) (by omega) (ok_X8_greatestWith (f := f) (e := (fpe (fun i => M 275 i) (fun i => M 274 i) f k)) (by omega) (by omega) (hS (fpe (fun i => M 275 i) (fun i => M 274 i) f k) (by omega) (by omega)) (hS f (by omega) (by omega)) ?_)
      refine go_icmp_ge (tgt := 34) dX8_firstPartEnd_28 rfl (fun c2 => ?_) (fun c2 => ?_)
      · refine gx_iinc (v := ((f + 2 + k + 1 : Nat) : Int)) (lv' := [(4, vI ((f + 2 + k + 1 : Nat) : Int)), (3, vI (((fpe (fun i => M 275 i) (fun i => M 274 i) f k) : Nat) : Int)), (0, vR 273), (1, vI ((f : Nat) : Int)), (2, vI ((l : Nat) : Int))]) 0 dX8_firstPartEnd_34 rfl (by omega) ⟨by omega, by omega⟩ (by decide) rfl ?_
        refine go_goto (tgt := 9) dX8_firstPartEnd_37 rfl ?_
        have e3 : (((fpe (fun i => M 275 i) (fun i => M 274 i) f k) : Nat) : Int) = (((fpe (fun i => M 275 i) (fun i => M 274 i) f (k + 1)) : Nat) : Int) := by (rw [fpe_s]; first | (rw [if_pos (by assumption)]; done) | (rw [if_neg (by omega)]; done) | (rw [if_pos (by omega)]; done))
        rw [e3]
        exact ih (k + 1) (by omega) (by omega)
      · refine go_iload 0 dX8_firstPartEnd_31 rfl ?_
        refine go_istore_n (lv' := [(3, vI ((f + 2 + k : Nat) : Int)), (4, vI ((f + 2 + k : Nat) : Int)), (0, vR 273), (1, vI ((f : Nat) : Int)), (2, vI ((l : Nat) : Int))]) dX8_firstPartEnd_33 rfl (by decide) rfl ?_
        refine gx_iinc (v := ((f + 2 + k + 1 : Nat) : Int)) (lv' := [(4, vI ((f + 2 + k + 1 : Nat) : Int)), (3, vI ((f + 2 + k : Nat) : Int)), (0, vR 273), (1, vI ((f : Nat) : Int)), (2, vI ((l : Nat) : Int))]) 1 dX8_firstPartEnd_34 rfl (by omega) ⟨by omega, by omega⟩ (by decide) rfl ?_
        refine go_goto (tgt := 9) dX8_firstPartEnd_37 rfl ?_
        have e4 : ((f + 2 + k : Nat) : Int) = (((fpe (fun i => M 275 i) (fun i => M 274 i) f (k + 1)) : Nat) : Int) := by (rw [fpe_s]; first | (rw [if_pos (by assumption)]; done) | (rw [if_neg (by omega)]; done) | (rw [if_pos (by omega)]; done))
        rw [e4]
        exact ih (k + 1) (by omega) (by omega)

set_option maxHeartbeats 4000000 in
set_option maxRecDepth 100000 in
theorem ok_X8_firstPartEnd {w f l n : Nat} {M : inm} {Q : Int → Nat → rfm → inm → Prop} (hl : l = f + 1 + n) (hl12 : l ≤ 12) (hS : ∀ i, f ≤ i → i ≤ l → 0 ≤ M 275 i ∧ M 275 i ≤ 1000) (hQ : Q (((fpe (fun i => M 275 i) (fun i => M 274 i) f n) : Nat) : Int) 303 (PP w) M) : OkI yX8_firstPartEnd cX8_firstPartEnd 5 2 0 0 (some .int) [vR 273, vI ((f : Nat) : Int), vI ((l : Nat) : Int)] 303 (PP w) M Q := by
  refine OkI.of (by decide +kernel) (by decide +kernel) (Nat.le_of_ble_eq_true rfl) ?_
  refine go_eq (lv' := [(0, vR 273), (1, vI ((f : Nat) : Int)), (2, vI ((l : Nat) : Int))]) rfl rfl rfl rfl rfl ?_
  refine go_iload_n 1 dX8_firstPartEnd_0 rfl rfl ?_
  refine go_iconst dX8_firstPartEnd_1 (by decide) ?_
  refine gx_iadd (v := ((f + 1 : Nat) : Int)) dX8_firstPartEnd_2 (by omega) ⟨by omega, by omega⟩ ?_
  refine go_istore_n (lv' := [(3, vI ((f + 1 : Nat) : Int)), (0, vR 273), (1, vI ((f : Nat) : Int)), (2, vI ((l : Nat) : Int))]) dX8_firstPartEnd_3 rfl (by decide) rfl ?_
  refine go_iload_n 2 dX8_firstPartEnd_4 rfl rfl ?_
  refine go_iconst dX8_firstPartEnd_5 (by decide) ?_
  refine gx_iadd (v := ((f + 2 : Nat) : Int)) dX8_firstPartEnd_6 (by omega) ⟨by omega, by omega⟩ ?_
  refine go_istore (lv' := [(4, vI ((f + 2 : Nat) : Int)), (3, vI ((f + 1 : Nat) : Int)), (0, vR 273), (1, vI ((f : Nat) : Int)), (2, vI ((l : Nat) : Int))]) dX8_firstPartEnd_7 (by decide) rfl ?_
  refine go_eq (lv' := [(4, vI ((f + 2 + 0 : Nat) : Int)), (3, vI (((fpe (fun i => M 275 i) (fun i => M 274 i) f 0) : Nat) : Int)), (0, vR 273), (1, vI ((f : Nat) : Int)), (2, vI ((l : Nat) : Int))]) (rfl) rfl rfl rfl rfl ?_
  exact lp_X8_firstPartEnd hl hl12 hS hQ (n + 1) 0 (by omega) (by omega)

set_option maxHeartbeats 4000000 in
set_option maxRecDepth 100000 in
theorem lp_X8_partUp_114 {a w L n : Nat} {M : inm} {q : Nat} {z : Int} {Q : Int → Nat → rfm → inm → Prop} (ha : On a) (hL : Lay M a L) (hn : 1 ≤ n ∧ n ≤ 5 ∧ n ≤ L) (hq : q + 2 ≤ n) (kk : ∀ M' : inm, Sc M M' → (∀ j, j ≤ L → M' 275 j = (sumTo (fun j => sting (M (a + 1) j) (M (a + 2) j))) j) → (∀ j, j + (q + 2) ≤ L → M' 274 j = PWF (sumTo (fun j => sting (M (a + 1) j) (M (a + 2) j))) L (q + 1) j) → Go S0 yX8_partUp cX8_partUp 7 3 0 0 (some .int) 154 [(4, vI z), (5, vI ((q + 2 : Nat) : Int)), (3, vI ((L : Nat) : Int)), (0, vR 273), (1, vR a), (2, vI ((n : Nat) : Int))] [] 303 (PP w) M' (fun v n P M => ∃ z, v = some (vI z) ∧ Q z n P M)) : ∀ d i, L < i + d → i + (q + 1) ≤ L → ∀ M' : inm, Sc M M' → (∀ j, j ≤ L → M' 275 j = (sumTo (fun j => sting (M (a + 1) j) (M (a + 2) j))) j) → (∀ j, j < i → M' 274 j = PWF (sumTo (fun j => sting (M (a + 1) j) (M (a + 2) j))) L (q + 1) j) → (∀ j, i ≤ j → j + (q + 1) ≤ L → M' 274 j = PWF (sumTo (fun j => sting (M (a + 1) j) (M (a + 2) j))) L q j) → Go S0 yX8_partUp cX8_partUp 7 3 0 0 (some .int) 114 [(6, vI ((i : Nat) : Int)), (4, vI z), (5, vI ((q + 2 : Nat) : Int)), (3, vI ((L : Nat) : Int)), (0, vR 273), (1, vR a), (2, vI ((n : Nat) : Int))] [] 303 (PP w) M' (fun v n P M => ∃ z, v = some (vI z) ∧ Q z n P M) := by
  have hL12 := hL.2.1
  have hasc := ha.sc (j := 6) (by omega)
  have hS0 : ∀ j, j ≤ L → 0 ≤ (sumTo (fun j => sting (M (a + 1) j) (M (a + 2) j))) j ∧ (sumTo (fun j => sting (M (a + 1) j) (M (a + 2) j))) j ≤ 1000 := fun j hj => by have q := sumTo_in (f := (fun j => sting (M (a + 1) j) (M (a + 2) j))) (b := 40) j (fun i hi => by have h9 := hL.2.2.1 i (by omega); have h8 := sting_in (c := M (a + 1) i) h9.1; exact ⟨h8.1, by show sting (M (a + 1) i) (M (a + 2) i) ≤ 40; omega⟩); exact ⟨q.1, by omega⟩
  intro d
  induction d with
  | zero => intro i h1 h2; exfalso; omega
  | succ d ih =>
    intro i h1 h2 M' hs h5 h6 h7
    refine go_iload 0 dX8_partUp_114 rfl ?_
    refine go_iload 2 dX8_partUp_116 rfl ?_
    refine gx_iadd (v := ((i + (q + 2) : Nat) : Int)) dX8_partUp_118 (by omega) ⟨by omega, by omega⟩ ?_
    refine go_iload_n 3 dX8_partUp_119 rfl rfl ?_
    refine go_icmp_gt (tgt := 154) dX8_partUp_120 rfl (fun c1 => ?_) (fun c1 => ?_)
    · refine go_lv [1, 2, 3, 4, 5, 6] rfl ?_
      exact kk M' hs h5 (fun j hj => h6 j (by omega))
    · refine go_aload_n 4 dX8_partUp_123 rfl rfl ?_
      refine go_getR (r := 274) dX8_partUp_124 lk8_9.get kd_273 (by omega) rfl (pp_273_0 w) ?_
      refine go_iload 0 dX8_partUp_127 rfl ?_
      refine go_aload_n 4 dX8_partUp_129 rfl rfl ?_
      refine go_iload 0 dX8_partUp_130 rfl ?_
      refine go_aload_n 4 dX8_partUp_132 rfl rfl ?_
      refine go_iload 0 dX8_partUp_133 rfl ?_
      refine go_iload_n 3 dX8_partUp_135 rfl rfl ?_
      refine go_iload 2 dX8_partUp_136 rfl ?_
      refine gx_isub (v := ((L - (q + 2) : Nat) : Int)) dX8_partUp_138 (by omega) ⟨by omega, by omega⟩ ?_
      refine go_iconst dX8_partUp_139 (by decide) ?_
      refine gx_iadd (v := ((L - (q + 2) + 1 : Nat) : Int)) dX8_partUp_140 (by omega) ⟨by omega, by omega⟩ ?_
      refine go_callVI (av := [vI ((i : Nat) : Int), vI ((L - (q + 2) + 1 : Nat) : Int)]) (st := [vI ((i : Nat) : Int), vR 273, vI ((i : Nat) : Int), vR 274]) (a := 273) (mc2 := 0) (ms2 := 0) dX8_partUp_141 cw8_44 (by decide) rfl rfl (Nat.le_of_ble_eq_true rfl) rfl rfl kd_273 ⟨_, _, rfl⟩ (by decide) (by omega) (ok_X8_firstPartEnd (M := M') (f := i) (l := L - (q + 2) + 1) (n := (L - (q + 2) + 1 - (i + 1))) (by omega) (by omega) (fun j _ _ => by rw [h5 j (by omega)]; exact hS0 j (by omega)) ?_)
      rw [fpe_congr (S' := (sumTo (fun j => sting (M (a + 1) j) (M (a + 2) j)))) (R' := PWF (sumTo (fun j => sting (M (a + 1) j) (M (a + 2) j))) L q) _ (fun j _ _ => h5 j (by omega)) (fun j _ _ => h7 j (by omega) (by omega))]
      have hb := fpe_in (S := (sumTo (fun j => sting (M (a + 1) j) (M (a + 2) j)))) (R := PWF (sumTo (fun j => sting (M (a + 1) j) (M (a + 2) j))) L q) (f := i) (L - (q + 2) + 1 - (i + 1))
      refine go_callVI (av := [vI ((i : Nat) : Int), vI ((fpe (sumTo (fun j => sting (M (a + 1) j) (M (a + 2) j))) (PWF (sumTo (fun j => sting (M (a + 1) j) (M (a + 2) j))) L q) i (L - (q + 2) + 1 - (i + 1)) : Nat) : Int)]) (st := [vI ((i : Nat) : Int), vR 274]) (a := 273) (mc2 := 0) (ms2 := 0) dX8_partUp_144 cw8_48 (by decide) rfl rfl (Nat.le_of_ble_eq_true rfl) rfl rfl kd_273 ⟨_, _, rfl⟩ (by decide) (by omega) (ok_X8_greatestWith (M := M') (f := i) (e := fpe (sumTo (fun j => sting (M (a + 1) j) (M (a + 2) j))) (PWF (sumTo (fun j => sting (M (a + 1) j) (M (a + 2) j))) L q) i (L - (q + 2) + 1 - (i + 1))) (by omega) (by omega) (by rw [h5 _ (by omega)]; exact hS0 _ (by omega)) (by rw [h5 _ (by omega)]; exact hS0 _ (by omega)) ?_)
      rw [show gw (fun i => M' 275 i) (fun i => M' 274 i) i (fpe (sumTo (fun j => sting (M (a + 1) j) (M (a + 2) j))) (PWF (sumTo (fun j => sting (M (a + 1) j) (M (a + 2) j))) L q) i (L - (q + 2) + 1 - (i + 1))) = PWF (sumTo (fun j => sting (M (a + 1) j) (M (a + 2) j))) L (q + 1) i by show max (M' 275 _ - M' 275 _) (M' 274 _) = max ((sumTo (fun j => sting (M (a + 1) j) (M (a + 2) j))) _ - (sumTo (fun j => sting (M (a + 1) j) (M (a + 2) j))) _) (PWF (sumTo (fun j => sting (M (a + 1) j) (M (a + 2) j))) L q _); rw [h5 _ (by omega), h5 _ (by omega), h7 _ (by omega) (by omega)]]
      refine gx_iastore i dX8_partUp_147 kd_274 (by omega) ln_274 rfl (by omega) ?_
      refine gx_iinc (v := ((i + 1 : Nat) : Int)) (lv' := [(6, vI ((i + 1 : Nat) : Int)), (4, vI z), (5, vI ((q + 2 : Nat) : Int)), (3, vI ((L : Nat) : Int)), (0, vR 273), (1, vR a), (2, vI ((n : Nat) : Int))]) 0 dX8_partUp_148 rfl (by omega) ⟨by omega, by omega⟩ (by decide) rfl ?_
      refine go_goto (tgt := 114) dX8_partUp_151 rfl ?_
      refine go_lv [0, 1, 2, 3, 4, 5, 6] rfl ?_
      by_cases hi : i + 1 + (q + 1) ≤ L
      · exact ih (i + 1) (by omega) hi _ (hs.up (by omega)) (fun j hj => (up2_ne (by omega)).trans (h5 j hj)) (fun j hj => by by_cases hji : j = i; (subst hji; exact up2_same); exact (up2_ne (by omega)).trans (h6 j (by omega))) (fun j h8 h9 => (up2_ne (by omega)).trans (h7 j (by omega) h9))
      · exfalso; omega

set_option maxHeartbeats 4000000 in
set_option maxRecDepth 100000 in
theorem lp_X8_partUp_92 {a w L n : Nat} {M : inm} {Q : Int → Nat → rfm → inm → Prop} (ha : On a) (hL : Lay M a L) (hn : 1 ≤ n ∧ n ≤ 5 ∧ n ≤ L) (hQ : ∀ M' : inm, Sc M M' → M' 274 0 = PWF (sumTo (fun j => sting (M (a + 1) j) (M (a + 2) j))) L (n - 1) 0 → Q ((FFp (sumTo (fun j => sting (M (a + 1) j) (M (a + 2) j))) L (n - 1) : Nat) : Int) 303 (PP w) M') : ∀ d q, n < q + 2 + d → q + 1 ≤ n → ∀ M' : inm, Sc M M' → (∀ j, j ≤ L → M' 275 j = (sumTo (fun j => sting (M (a + 1) j) (M (a + 2) j))) j) → (∀ j, j + (q + 1) ≤ L → M' 274 j = PWF (sumTo (fun j => sting (M (a + 1) j) (M (a + 2) j))) L q j) → Go S0 yX8_partUp cX8_partUp 7 3 0 0 (some .int) 92 [(4, vI ((FFp (sumTo (fun j => sting (M (a + 1) j) (M (a + 2) j))) L q : Nat) : Int)), (5, vI ((q + 2 : Nat) : Int)), (3, vI ((L : Nat) : Int)), (0, vR 273), (1, vR a), (2, vI ((n : Nat) : Int))] [] 303 (PP w) M' (fun v n P M => ∃ z, v = some (vI z) ∧ Q z n P M) := by
  have hL12 := hL.2.1
  have hasc := ha.sc (j := 6) (by omega)
  have hS0 : ∀ j, j ≤ L → 0 ≤ (sumTo (fun j => sting (M (a + 1) j) (M (a + 2) j))) j ∧ (sumTo (fun j => sting (M (a + 1) j) (M (a + 2) j))) j ≤ 1000 := fun j hj => by have q := sumTo_in (f := (fun j => sting (M (a + 1) j) (M (a + 2) j))) (b := 40) j (fun i hi => by have h9 := hL.2.2.1 i (by omega); have h8 := sting_in (c := M (a + 1) i) h9.1; exact ⟨h8.1, by show sting (M (a + 1) i) (M (a + 2) i) ≤ 40; omega⟩); exact ⟨q.1, by omega⟩
  intro d
  induction d with
  | zero =>
    intro q h1 h2 M' hs h5 h7
    have hqn : q = n - 1 := by omega
    subst hqn
    refine go_iload 1 dX8_partUp_92 rfl ?_
    refine go_iload_n 5 dX8_partUp_94 rfl rfl ?_
    refine go_icmp_gt (tgt := 160) dX8_partUp_95 rfl (fun c1 => ?_) (fun c1 => ?_)
    · refine go_iload 0 dX8_partUp_160 rfl ?_
      refine go_iret dX8_partUp_162 rfl rfl ⟨_, rfl, ?_⟩
      exact hQ M' hs (h7 0 (by omega))
    · exact absurd c1 (by omega)
  | succ d ih =>
    intro q h1 h2 M' hs h5 h7
    refine go_iload 1 dX8_partUp_92 rfl ?_
    refine go_iload_n 5 dX8_partUp_94 rfl rfl ?_
    refine go_icmp_gt (tgt := 160) dX8_partUp_95 rfl (fun c1 => ?_) (fun c1 => ?_)
    · refine go_iload 0 dX8_partUp_160 rfl ?_
      refine go_iret dX8_partUp_162 rfl rfl ⟨_, rfl, ?_⟩
      rw [show q = n - 1 by omega] at h7 ⊢
      exact hQ M' hs (h7 0 (by omega))
    · refine go_aload_n 3 dX8_partUp_98 rfl rfl ?_
      refine go_iconst dX8_partUp_99 (by decide) ?_
      refine go_iload_n 2 dX8_partUp_100 rfl rfl ?_
      refine go_iload 1 dX8_partUp_101 rfl ?_
      refine gx_isub (v := ((L - (q + 2) : Nat) : Int)) dX8_partUp_103 (by omega) ⟨by omega, by omega⟩ ?_
      refine go_iconst dX8_partUp_104 (by decide) ?_
      refine gx_iadd (v := ((L - (q + 2) + 1 : Nat) : Int)) dX8_partUp_105 (by omega) ⟨by omega, by omega⟩ ?_
      refine go_callVI (av := [vI 0, vI ((L - (q + 2) + 1 : Nat) : Int)]) (st := []) (a := 273) (mc2 := 0) (ms2 := 0) dX8_partUp_106 cw8_44 (by decide) rfl rfl (Nat.le_of_ble_eq_true rfl) rfl rfl kd_273 ⟨_, _, rfl⟩ (by decide) (by omega) (ok_X8_firstPartEnd (M := M') (f := 0) (l := L - (q + 2) + 1) (n := (L - (q + 2) + 1 - (0 + 1))) (by omega) (by omega) (fun j _ _ => by rw [h5 j (by omega)]; exact hS0 j (by omega)) ?_)
      rw [fpe_congr (S' := (sumTo (fun j => sting (M (a + 1) j) (M (a + 2) j)))) (R' := PWF (sumTo (fun j => sting (M (a + 1) j) (M (a + 2) j))) L q) _ (fun j _ _ => h5 j (by omega)) (fun j _ _ => h7 j (by omega))]
      have hb := fpe_in (S := (sumTo (fun j => sting (M (a + 1) j) (M (a + 2) j)))) (R := PWF (sumTo (fun j => sting (M (a + 1) j) (M (a + 2) j))) L q) (f := 0) (L - (q + 2) + 1 - (0 + 1))
      refine go_istore (lv' := [(4, vI ((fpe (sumTo (fun j => sting (M (a + 1) j) (M (a + 2) j))) (PWF (sumTo (fun j => sting (M (a + 1) j) (M (a + 2) j))) L q) 0 (L - (q + 2) + 1 - (0 + 1)) : Nat) : Int)), (5, vI ((q + 2 : Nat) : Int)), (3, vI ((L : Nat) : Int)), (0, vR 273), (1, vR a), (2, vI ((n : Nat) : Int))]) dX8_partUp_109 (by decide) rfl ?_
      refine go_iconst dX8_partUp_111 (by decide) ?_
      refine go_istore (lv' := [(6, vI 0), (4, vI ((fpe (sumTo (fun j => sting (M (a + 1) j) (M (a + 2) j))) (PWF (sumTo (fun j => sting (M (a + 1) j) (M (a + 2) j))) L q) 0 (L - (q + 2) + 1 - (0 + 1)) : Nat) : Int)), (5, vI ((q + 2 : Nat) : Int)), (3, vI ((L : Nat) : Int)), (0, vR 273), (1, vR a), (2, vI ((n : Nat) : Int))]) dX8_partUp_112 (by decide) rfl ?_
      refine go_lv [0, 1, 2, 3, 4, 5, 6] rfl ?_
      refine lp_X8_partUp_114 ha hL hn (q := q) (by omega) ?_ (L + 1) 0 (by omega) (by omega) M' hs h5 (fun j hj => absurd hj (by omega)) (fun j _ hj => h7 j hj)
      · intro M2 hs2 h52 h72
        refine gx_iinc (v := ((q + 3 : Nat) : Int)) (lv' := [(5, vI ((q + 3 : Nat) : Int)), (4, vI ((FFp (sumTo (fun j => sting (M (a + 1) j) (M (a + 2) j))) L (q + 1) : Nat) : Int)), (3, vI ((L : Nat) : Int)), (0, vR 273), (1, vR a), (2, vI ((n : Nat) : Int))]) 1 dX8_partUp_154 rfl (by omega) ⟨by omega, by omega⟩ (by decide) rfl ?_
        refine go_goto (tgt := 92) dX8_partUp_157 rfl ?_
        refine go_lv [1, 0, 2, 3, 4, 5] rfl ?_
        exact ih (q + 1) (by omega) (by omega) M2 hs2 h52 (fun j hj => h72 j (by omega))

set_option maxHeartbeats 4000000 in
set_option maxRecDepth 100000 in
theorem lp_X8_partUp_53 {a w L n : Nat} {M : inm} {Q : Int → Nat → rfm → inm → Prop} (ha : On a) (hL : Lay M a L) (hn : 1 ≤ n ∧ n ≤ 5 ∧ n ≤ L) (hQ : ∀ M' : inm, Sc M M' → M' 274 0 = PWF (sumTo (fun j => sting (M (a + 1) j) (M (a + 2) j))) L (n - 1) 0 → Q ((FFp (sumTo (fun j => sting (M (a + 1) j) (M (a + 2) j))) L (n - 1) : Nat) : Int) 303 (PP w) M') : ∀ d i, L < i + d → i ≤ L → ∀ M' : inm, Sc M M' → (∀ j, j ≤ L → M' 275 j = (sumTo (fun j => sting (M (a + 1) j) (M (a + 2) j))) j) → (∀ j, j < i → M' 274 j = (sumTo (fun j => sting (M (a + 1) j) (M (a + 2) j))) L - (sumTo (fun j => sting (M (a + 1) j) (M (a + 2) j))) j) → Go S0 yX8_partUp cX8_partUp 7 3 0 0 (some .int) 53 [(4, vI ((i : Nat) : Int)), (3, vI ((L : Nat) : Int)), (0, vR 273), (1, vR a), (2, vI ((n : Nat) : Int))] [] 303 (PP w) M' (fun v n P M => ∃ z, v = some (vI z) ∧ Q z n P M) := by
  have hL12 := hL.2.1
  have hasc := ha.sc (j := 6) (by omega)
  have hS0 : ∀ j, j ≤ L → 0 ≤ (sumTo (fun j => sting (M (a + 1) j) (M (a + 2) j))) j ∧ (sumTo (fun j => sting (M (a + 1) j) (M (a + 2) j))) j ≤ 1000 := fun j hj => by have q := sumTo_in (f := (fun j => sting (M (a + 1) j) (M (a + 2) j))) (b := 40) j (fun i hi => by have h9 := hL.2.2.1 i (by omega); have h8 := sting_in (c := M (a + 1) i) h9.1; exact ⟨h8.1, by show sting (M (a + 1) i) (M (a + 2) i) ≤ 40; omega⟩); exact ⟨q.1, by omega⟩
  intro d
  induction d with
  | zero => intro i h1 h2; exfalso; omega
  | succ d ih =>
    intro i h1 h2 M' hs h5 h6
    have hb1 := hS0 L (by omega)
    have hb2 := hS0 i (by omega)
    refine go_iload 0 dX8_partUp_53 rfl ?_
    refine go_iload_n 1 dX8_partUp_55 rfl rfl ?_
    refine go_icmp_ge (tgt := 86) dX8_partUp_56 rfl (fun c1 => ?_) (fun c1 => ?_)
    · refine go_iload_n 1 dX8_partUp_86 rfl rfl ?_
      refine go_istore (lv' := [(4, vI ((L : Nat) : Int)), (3, vI ((L : Nat) : Int)), (0, vR 273), (1, vR a), (2, vI ((n : Nat) : Int))]) dX8_partUp_87 (by decide) rfl ?_
      refine go_iconst dX8_partUp_89 (by decide) ?_
      refine go_istore (lv' := [(5, vI 2), (4, vI ((L : Nat) : Int)), (3, vI ((L : Nat) : Int)), (0, vR 273), (1, vR a), (2, vI ((n : Nat) : Int))]) dX8_partUp_90 (by decide) rfl ?_
      refine go_lv [1, 0, 2, 3, 4, 5] rfl ?_
      refine go_eq (lv' := [(4, vI ((FFp (sumTo (fun j => sting (M (a + 1) j) (M (a + 2) j))) L 0 : Nat) : Int)), (5, vI ((0 + 2 : Nat) : Int)), (3, vI ((L : Nat) : Int)), (0, vR 273), (1, vR a), (2, vI ((n : Nat) : Int))]) rfl rfl rfl rfl rfl ?_
      exact lp_X8_partUp_92 ha hL hn hQ n 0 (by omega) (by omega) M' hs h5 (fun j hj => h6 j (by omega))
    · refine go_aload_n 2 dX8_partUp_59 rfl rfl ?_
      refine go_getR (r := 274) dX8_partUp_60 lk8_9.get kd_273 (by omega) rfl (pp_273_0 w) ?_
      refine go_iload 0 dX8_partUp_63 rfl ?_
      refine go_aload_n 2 dX8_partUp_65 rfl rfl ?_
      refine go_getR (r := 275) dX8_partUp_66 lk8_15.get kd_273 (by omega) rfl (pp_273_1 w) ?_
      refine go_iload_n 1 dX8_partUp_69 rfl rfl ?_
      refine gx_iaload (v := ((sumTo (fun j => sting (M (a + 1) j) (M (a + 2) j))) L)) L dX8_partUp_70 kd_275 (by omega) ln_275 rfl (by omega) ((h5 L (by omega))) ?_
      refine go_aload_n 2 dX8_partUp_71 rfl rfl ?_
      refine go_getR (r := 275) dX8_partUp_72 lk8_15.get kd_273 (by omega) rfl (pp_273_1 w) ?_
      refine go_iload 0 dX8_partUp_75 rfl ?_
      refine gx_iaload (v := ((sumTo (fun j => sting (M (a + 1) j) (M (a + 2) j))) i)) i dX8_partUp_77 kd_275 (by omega) ln_275 rfl (by omega) ((h5 i (by omega))) ?_
      refine gx_isub (v := (((sumTo (fun j => sting (M (a + 1) j) (M (a + 2) j))) L) - ((sumTo (fun j => sting (M (a + 1) j) (M (a + 2) j))) i))) dX8_partUp_78 rfl ⟨by omega, by omega⟩ ?_
      refine gx_iastore i dX8_partUp_79 kd_274 (by omega) ln_274 rfl (by omega) ?_
      refine gx_iinc (v := ((i + 1 : Nat) : Int)) (lv' := [(4, vI ((i + 1 : Nat) : Int)), (3, vI ((L : Nat) : Int)), (0, vR 273), (1, vR a), (2, vI ((n : Nat) : Int))]) 0 dX8_partUp_80 rfl (by omega) ⟨by omega, by omega⟩ (by decide) rfl ?_
      refine go_goto (tgt := 53) dX8_partUp_83 rfl ?_
      refine go_lv [0, 1, 2, 3, 4] rfl ?_
      exact ih (i + 1) (by omega) (by omega) _ (hs.up (by omega)) (fun j hj => (up2_ne (by omega)).trans (h5 j hj)) (fun j hj => by by_cases hji : j = i; (subst hji; exact up2_same); exact (up2_ne (by omega)).trans (h6 j (by omega)))

set_option maxHeartbeats 4000000 in
set_option maxRecDepth 100000 in
theorem lp_X8_partUp_15 {a w L n : Nat} {M : inm} {Q : Int → Nat → rfm → inm → Prop} (ha : On a) (hL : Lay M a L) (hn : 1 ≤ n ∧ n ≤ 5 ∧ n ≤ L) (hQ : ∀ M' : inm, Sc M M' → M' 274 0 = PWF (sumTo (fun j => sting (M (a + 1) j) (M (a + 2) j))) L (n - 1) 0 → Q ((FFp (sumTo (fun j => sting (M (a + 1) j) (M (a + 2) j))) L (n - 1) : Nat) : Int) 303 (PP w) M') : ∀ d i, L < i + d → i ≤ L → ∀ M' : inm, Sc M M' → (∀ j, j ≤ i → M' 275 j = (sumTo (fun j => sting (M (a + 1) j) (M (a + 2) j))) j) → Go S0 yX8_partUp cX8_partUp 7 3 0 0 (some .int) 15 [(4, vI ((i : Nat) : Int)), (3, vI ((L : Nat) : Int)), (0, vR 273), (1, vR a), (2, vI ((n : Nat) : Int))] [] 303 (PP w) M' (fun v n P M => ∃ z, v = some (vI z) ∧ Q z n P M) := by
  have hL12 := hL.2.1
  have hasc := ha.sc (j := 6) (by omega)
  have hS0 : ∀ j, j ≤ L → 0 ≤ (sumTo (fun j => sting (M (a + 1) j) (M (a + 2) j))) j ∧ (sumTo (fun j => sting (M (a + 1) j) (M (a + 2) j))) j ≤ 1000 := fun j hj => by have q := sumTo_in (f := (fun j => sting (M (a + 1) j) (M (a + 2) j))) (b := 40) j (fun i hi => by have h9 := hL.2.2.1 i (by omega); have h8 := sting_in (c := M (a + 1) i) h9.1; exact ⟨h8.1, by show sting (M (a + 1) i) (M (a + 2) i) ≤ 40; omega⟩); exact ⟨q.1, by omega⟩
  intro d
  induction d with
  | zero => intro i h1 h2; exfalso; omega
  | succ d ih =>
    intro i h1 h2 M' hs h5
    have hb2 := hS0 i (by omega)
    refine go_iload 0 dX8_partUp_15 rfl ?_
    refine go_iload_n 1 dX8_partUp_17 rfl rfl ?_
    refine go_icmp_ge (tgt := 50) dX8_partUp_18 rfl (fun c1 => ?_) (fun c1 => ?_)
    · refine go_iconst dX8_partUp_50 (by decide) ?_
      refine go_istore (lv' := [(4, vI 0), (3, vI ((L : Nat) : Int)), (0, vR 273), (1, vR a), (2, vI ((n : Nat) : Int))]) dX8_partUp_51 (by decide) rfl ?_
      refine go_lv [0, 1, 2, 3, 4] rfl ?_
      exact lp_X8_partUp_53 ha hL hn hQ (L + 1) 0 (by omega) (by omega) M' hs (fun j hj => h5 j (by omega)) (fun j hj => absurd hj (by omega))
    · refine go_aload_n 2 dX8_partUp_21 rfl rfl ?_
      refine go_getR (r := 275) dX8_partUp_22 lk8_15.get kd_273 (by omega) rfl (pp_273_1 w) ?_
      refine go_iload 0 dX8_partUp_25 rfl ?_
      refine go_iconst dX8_partUp_27 (by decide) ?_
      refine gx_iadd (v := ((i + 1 : Nat) : Int)) dX8_partUp_28 (by omega) ⟨by omega, by omega⟩ ?_
      refine go_aload_n 2 dX8_partUp_29 rfl rfl ?_
      refine go_getR (r := 275) dX8_partUp_30 lk8_15.get kd_273 (by omega) rfl (pp_273_1 w) ?_
      refine go_iload 0 dX8_partUp_33 rfl ?_
      refine gx_iaload (v := ((sumTo (fun j => sting (M (a + 1) j) (M (a + 2) j))) i)) i dX8_partUp_35 kd_275 (by omega) ln_275 rfl (by omega) ((h5 i (by omega))) ?_
      refine go_aload_n 3 dX8_partUp_36 rfl rfl ?_
      refine go_iload 0 dX8_partUp_37 rfl ?_
      refine go_callVI (av := [vI ((i : Nat) : Int)]) (st := [vI ((sumTo (fun j => sting (M (a + 1) j) (M (a + 2) j))) i), vI ((i + 1 : Nat) : Int), vR 275]) (a := a) (mc2 := 0) (ms2 := 0) dX8_partUp_39 cw8_38 (by decide) rfl rfl (Nat.le_of_ble_eq_true rfl) rfl rfl ha.k0 ⟨_, _, rfl⟩ (by decide) ha.l0 (ok_X6_stingOf (k := i) (M := M') ha (by rw [(hL.sc ha hs).1]; omega) (by omega) ((hL.sc ha hs).2.2.1 i (by omega)) ?_)
      rw [hs (a + 1) i (Or.inl (ha.sc (by omega))), hs (a + 2) i (Or.inl (ha.sc (by omega)))]
      have g2 := sting_in (c := M (a + 1) i) (hL.2.2.1 i (by omega)).1
      have g2b := hL.2.2.1 i (by omega)
      refine gx_iadd (v := (((sumTo (fun j => sting (M (a + 1) j) (M (a + 2) j))) i) + (sting (M (a + 1) i) (M (a + 2) i)))) dX8_partUp_42 rfl ⟨by omega, by omega⟩ ?_
      refine gx_iastore (i + 1) dX8_partUp_43 kd_275 (by omega) ln_275 rfl (by omega) ?_
      refine gx_iinc (v := ((i + 1 : Nat) : Int)) (lv' := [(4, vI ((i + 1 : Nat) : Int)), (3, vI ((L : Nat) : Int)), (0, vR 273), (1, vR a), (2, vI ((n : Nat) : Int))]) 0 dX8_partUp_44 rfl (by omega) ⟨by omega, by omega⟩ (by decide) rfl ?_
      refine go_goto (tgt := 15) dX8_partUp_47 rfl ?_
      refine go_lv [0, 1, 2, 3, 4] rfl ?_
      exact ih (i + 1) (by omega) (by omega) _ (hs.up (by omega)) (fun j hj => by by_cases hji : j = i + 1; (subst hji; exact up2_same); exact (up2_ne (by omega)).trans (h5 j (by omega)))

set_option maxHeartbeats 4000000 in
set_option maxRecDepth 100000 in
theorem ok_X8_partUp {a w L n : Nat} {M : inm} {Q : Int → Nat → rfm → inm → Prop} (ha : On a) (hL : Lay M a L) (hn : 1 ≤ n ∧ n ≤ 5 ∧ n ≤ L) (hQ : ∀ M' : inm, Sc M M' → M' 274 0 = PWF (sumTo (fun j => sting (M (a + 1) j) (M (a + 2) j))) L (n - 1) 0 → Q ((FFp (sumTo (fun j => sting (M (a + 1) j) (M (a + 2) j))) L (n - 1) : Nat) : Int) 303 (PP w) M') : OkI yX8_partUp cX8_partUp 7 3 0 0 (some .int) [vR 273, vR a, vI ((n : Nat) : Int)] 303 (PP w) M Q := by
  refine OkI.of (by decide +kernel) (by decide +kernel) (Nat.le_of_ble_eq_true rfl) ?_
  refine go_eq (lv' := [(0, vR 273), (1, vR a), (2, vI ((n : Nat) : Int))]) rfl rfl rfl rfl rfl ?_
  refine go_aload_n 1 dX8_partUp_0 rfl rfl ?_
  refine gx_getI (v := ((L : Nat) : Int)) dX8_partUp_1 lk8_24.get ha.k0 ha.l0 rfl hL.1 ?_
  refine go_istore_n (lv' := [(3, vI ((L : Nat) : Int)), (0, vR 273), (1, vR a), (2, vI ((n : Nat) : Int))]) dX8_partUp_4 rfl (by decide) rfl ?_
  refine go_aload_n 1 dX8_partUp_5 rfl rfl ?_
  refine go_getR (r := 275) dX8_partUp_6 lk8_15.get kd_273 (by omega) rfl (pp_273_1 w) ?_
  refine go_iconst dX8_partUp_9 (by decide) ?_
  refine go_iconst dX8_partUp_10 (by decide) ?_
  refine gx_iastore 0 dX8_partUp_11 kd_275 (by omega) ln_275 (by omega) (by omega) ?_
  refine go_iconst dX8_partUp_12 (by decide) ?_
  refine go_istore (lv' := [(4, vI 0), (3, vI ((L : Nat) : Int)), (0, vR 273), (1, vR a), (2, vI ((n : Nat) : Int))]) dX8_partUp_13 (by decide) rfl ?_
  refine go_lv [0, 1, 2, 3, 4] rfl ?_
  exact lp_X8_partUp_15 ha hL hn hQ (L + 1) 0 (by omega) (by omega) _ ((Sc.rf M).up (by omega)) (fun j hj => by rw [show j = 0 by omega]; exact up2_same)

