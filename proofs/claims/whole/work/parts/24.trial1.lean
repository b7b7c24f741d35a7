/-! ===== Trial ===== -/
/-- but for the rows of Trial nothing has changed -/
def Sc (M M' : inm) : Prop := ∀ x j, x < 274 ∨ 277 < x → M' x j = M x j
theorem Sc.rf (M : inm) : Sc M M := fun _ _ _ => rfl
theorem Sc.up {M M' : inm} {a j : Nat} {z : Int} (h : Sc M M') (ha : 274 ≤ a ∧ a ≤ 277) : Sc M (up2 M' a j z) := fun x i hx => (up2_ne (by omega)).trans (h x i hx)
theorem Sc.cp {M M' : inm} {a0 sp a1 dp u : Nat} (h : Sc M M') (ha : 274 ≤ a1 ∧ a1 ≤ 277) : Sc M (cp2 M' a0 sp a1 dp u) := fun x i hx => (cp2_ne (by omega)).trans (h x i hx)
theorem Sc.trans {M M' M2 : inm} (h : Sc M M') (h2 : Sc M' M2) : Sc M M2 := fun x i hx => (h2 x i hx).trans (h x i hx)
theorem On.sc {a j : Nat} (h : On a) (hj : j ≤ 6) : a + j < 274 := by
  have q : ∀ a ∈ onL, a + 6 < 274 := by decide +kernel
  have := q a h
  omega
theorem Cs.sc {v : Nat} (h : Cs v) : v + 12 < 274 := by rcases h with rfl | rfl <;> decide
theorem Lay.sc {M M' : inm} {a L : Nat} (ha : On a) (hs : Sc M M') (h : Lay M a L) : Lay M' a L := by
  have e0 : M' a 0 = M a 0 := hs a 0 (Or.inl (by have := ha.sc (j := 0) (by omega); omega))
  have e1 : ∀ j, M' (a + 1) j = M (a + 1) j := fun j => hs _ j (Or.inl (ha.sc (by omega)))
  have e2 : ∀ j, M' (a + 2) j = M (a + 2) j := fun j => hs _ j (Or.inl (ha.sc (by omega)))
  unfold Lay at h ⊢
  simp only [e0, e1, e2]
  exact h
theorem Tys.sc {M M' : inm} {v T : Nat} {lt : Nat → Nat} (hv : Cs v) (hs : Sc M M') (h : Tys M v T lt) : Tys M' v T lt := by
  have q := hv.sc
  have hT6 := h.2.1
  refine ⟨?_, h.2.1, fun t ht => ?_, fun t ht k hk => ?_⟩
  · rw [hs v 4 (Or.inl (by omega))]; exact h.1
  · rw [hs (v + 5) t (Or.inl (by omega))]; exact h.2.2.1 t ht
  · rw [hs (v + 7 + t) k (Or.inl (by omega))]; exact h.2.2.2 t ht k hk
def gainF (c t : Nat → Int) (r : Int) (k : Nat) : Int := worth (c k) (t k) - sting (c k) (t k) - r + (if 0 < k ∧ c k = 4 then 5 else 0)
theorem gain_in {c t : Nat → Int} {r : Int} (hr : 0 ≤ r ∧ r ≤ 9) : ∀ n, (∀ j, j < n → 0 ≤ t j ∧ t j ≤ 20) → -(49 * (n : Int)) ≤ sumTo (gainF c t r) n ∧ sumTo (gainF c t r) n ≤ 49 * n
  | 0, _ => by show -(49 * ((0 : Nat) : Int)) ≤ 0 ∧ (0 : Int) ≤ 49 * ((0 : Nat) : Int); omega
  | n + 1, h => by
    have ih := gain_in (c := c) hr n (fun j hj => h j (by omega))
    have h1 := h n (by omega)
    have h2 := worth_in (c := c n) h1.1
    have h3 := sting_in (c := c n) h1.1
    rw [sumTo_s, gainF]
    split <;> omega
def bestG (f : Nat → Int) (k : Nat) (s : Int × Int) : Int × Int := if s.2 < sumTo f (k + 1) then (((k + 1 : Nat) : Int), sumTo f (k + 1)) else s
theorem best_in {c t : Nat → Int} {r : Int} (hr : 0 ≤ r ∧ r ≤ 9) : ∀ n, n ≤ 12 → (∀ j, j < n → 0 ≤ t j ∧ t j ≤ 20) → (0 ≤ (fo (bestG (gainF c t r)) n (0, 0)).1 ∧ (fo (bestG (gainF c t r)) n (0, 0)).1 ≤ n) ∧ 0 ≤ (fo (bestG (gainF c t r)) n (0, 0)).2 ∧ (fo (bestG (gainF c t r)) n (0, 0)).2 ≤ 1000
  | 0, _, _ => ⟨⟨Int.le_refl 0, Int.le_refl 0⟩, Int.le_refl 0, by show (0 : Int) ≤ 1000; omega⟩
  | n + 1, hn, h => by
    have ih := best_in (c := c) hr n (by omega) (fun j hj => h j (by omega))
    have hg := gain_in (c := c) hr (n + 1) h
    rw [fo, bestG]
    split
    · exact ⟨⟨by omega, by omega⟩, by show 0 ≤ sumTo _ (n + 1); omega, by show sumTo _ (n + 1) ≤ 1000; omega⟩
    · exact ⟨⟨ih.1.1, by have := ih.1.2; omega⟩, ih.2⟩
set_option maxHeartbeats 4000000 in
set_option maxRecDepth 100000 in
theorem lp_X8_gainOf {a w L : Nat} {r : Int} {M : inm} {n : Nat} {Q : Int → Nat → rfm → inm → Prop} (ha : On a) (hL : Lay M a L) (hr : 0 ≤ r ∧ r ≤ 9) (hn : n ≤ L) (hQ : Q (sumTo (gainF (fun j => M (a + 1) j) (fun j => M (a + 2) j) r) n) 303 (PP w) M) : ∀ (d k : Nat), n < k + d → k ≤ n → Go S0 yX8_gainOf cX8_gainOf 5 2 0 0 (some .int) 5 [(4, vI ((k : Nat) : Int)), (3, vI (sumTo (gainF (fun j => M (a + 1) j) (fun j => M (a + 2) j) r) k)), (0, vR a), (1, vI r), (2, vI ((n : Nat) : Int))] [] 303 (PP w) M (fun v n P M => ∃ z, v = some (vI z) ∧ Q z n P M) := by
  have hL12 := hL.2.1
  intro d
  induction d with
  | zero => intro k h1 h2; exfalso; omega
  | succ d ih =>
    intro k h1 h2
    have hs := gain_in (c := (fun j => M (a + 1) j)) (t := (fun j => M (a + 2) j)) hr k (fun j hj => hL.2.2.1 j (by omega))
    refine go_iload 0 dX8_gainOf_5 rfl ?_
    refine go_iload_n 4 dX8_gainOf_7 rfl rfl ?_
    refine go_icmp_ge (tgt := 63) dX8_gainOf_8 rfl (fun c1 => ?_) (fun c1 => ?_)
    · refine go_iload_n 1 dX8_gainOf_63 rfl rfl ?_
      refine go_iret dX8_gainOf_64 rfl rfl ⟨_, rfl, ?_⟩
      rw [show k = n by omega]
      exact hQ
    · refine go_iload 0 dX8_gainOf_11 rfl ?_
      refine go_aload_n 2 dX8_gainOf_13 rfl rfl ?_
      refine gx_getI (v := ((L : Nat) : Int)) dX8_gainOf_14 lk8_24.get ha.k0 ha.l0 rfl hL.1 ?_
      refine go_icmp_ge (tgt := 63) dX8_gainOf_17 rfl (fun c2 => ?_) (fun c2 => ?_)
      · refine go_iload_n 1 dX8_gainOf_63 rfl rfl ?_
        refine go_iret dX8_gainOf_64 rfl rfl ⟨_, rfl, ?_⟩
        rw [show k = n by omega]
        exact hQ
      · refine go_iload_n 1 dX8_gainOf_20 rfl rfl ?_
        refine go_aload_n 2 dX8_gainOf_21 rfl rfl ?_
        refine go_iload 0 dX8_gainOf_22 rfl ?_
        refine go_callVI (av := [vI ((k : Nat) : Int)]) (st := [vI (sumTo (gainF (fun j => M (a + 1) j) (fun j => M (a + 2) j) r) k)]) (a := a) (mc2 := 0) (ms2 := 0) dX8_gainOf_24 cw8_34 (by decide) rfl rfl (Nat.le_of_ble_eq_true rfl) rfl rfl ha.k0 ⟨_, _, rfl⟩ (by decide) ha.l0 (ok_X6_worthOf (k := k) ha (by rw [hL.1]; omega) (by omega) (hL.2.2.1 k (by omega)) ?_)
        have g3 := worth_in (c := M (a + 1) k) (hL.2.2.1 k (by omega)).1
        have g3b := hL.2.2.1 k (by omega)
        refine go_aload_n 2 dX8_gainOf_27 rfl rfl ?_
        refine go_iload 0 dX8_gainOf_28 rfl ?_
        refine go_callVI (av := [vI ((k : Nat) : Int)]) (st := [vI (worth (M (a + 1) k) (M (a + 2) k)), vI (sumTo (gainF (fun j => M (a + 1) j) (fun j => M (a + 2) j) r) k)]) (a := a) (mc2 := 0) (ms2 := 0) dX8_gainOf_30 cw8_38 (by decide) rfl rfl (Nat.le_of_ble_eq_true rfl) rfl rfl ha.k0 ⟨_, _, rfl⟩ (by decide) ha.l0 (ok_X6_stingOf (k := k) ha (by rw [hL.1]; omega) (by omega) (hL.2.2.1 k (by omega)) ?_)
        have g4 := sting_in (c := M (a + 1) k) (hL.2.2.1 k (by omega)).1
        have g4b := hL.2.2.1 k (by omega)
        refine gx_isub (v := ((worth (M (a + 1) k) (M (a + 2) k)) - (sting (M (a + 1) k) (M (a + 2) k)))) dX8_gainOf_33 rfl ⟨by omega, by omega⟩ ?_
        refine go_iload_n 3 dX8_gainOf_34 rfl rfl ?_
        refine gx_isub (v := (((worth (M (a + 1) k) (M (a + 2) k)) - (sting (M (a + 1) k) (M (a + 2) k))) - r)) dX8_gainOf_35 rfl ⟨by omega, by omega⟩ ?_
        refine gx_iadd (v := ((sumTo (gainF (fun j => M (a + 1) j) (fun j => M (a + 2) j) r) k) + (((worth (M (a + 1) k) (M (a + 2) k)) - (sting (M (a + 1) k) (M (a + 2) k))) - r))) dX8_gainOf_36 rfl ⟨by omega, by omega⟩ ?_
        refine go_istore_n (lv' := [(3, vI ((sumTo (gainF (fun j => M (a + 1) j) (fun j => M (a + 2) j) r) k) + (((worth (M (a + 1) k) (M (a + 2) k)) - (sting (M (a + 1) k) (M (a + 2) k))) - r))), (4, vI ((k : Nat) : Int)), (0, vR a), (1, vI r), (2, vI ((n : Nat) : Int))]) dX8_gainOf_37 rfl (by decide) rfl ?_
        refine go_iload 1 dX8_gainOf_38 rfl ?_
        refine go_if_le (tgt := 57) dX8_gainOf_40 rfl (fun c5 => ?_) (fun c5 => ?_)
        · refine gx_iinc (v := ((k + 1 : Nat) : Int)) (lv' := [(4, vI ((k + 1 : Nat) : Int)), (3, vI ((sumTo (gainF (fun j => M (a + 1) j) (fun j => M (a + 2) j) r) k) + (((worth (M (a + 1) k) (M (a + 2) k)) - (sting (M (a + 1) k) (M (a + 2) k))) - r))), (0, vR a), (1, vI r), (2, vI ((n : Nat) : Int))]) 1 dX8_gainOf_57 rfl (by omega) ⟨by omega, by omega⟩ (by decide) rfl ?_
          refine go_goto (tgt := 5) dX8_gainOf_60 rfl ?_
          have e6 : ((sumTo (gainF (fun j => M (a + 1) j) (fun j => M (a + 2) j) r) k) + (((worth (M (a + 1) k) (M (a + 2) k)) - (sting (M (a + 1) k) (M (a + 2) k))) - r)) = (sumTo (gainF (fun j => M (a + 1) j) (fun j => M (a + 2) j) r) (k + 1)) := by (rw [sumTo_s, gainF]; first | (rw [if_pos ⟨by omega, by omega⟩]; omega) | (rw [if_neg (by omega)]; omega))
          rw [e6]
          exact ih (k + 1) (by omega) (by omega)
        · refine go_aload_n 2 dX8_gainOf_43 rfl rfl ?_
          refine go_getR (r := (a + 1)) dX8_gainOf_44 lk8_41 ha.k0 ha.l0 rfl (ha.p1 _) ?_
          refine go_iload 1 dX8_gainOf_47 rfl ?_
          have f7 := hL.2.2.2 k (by omega)
          refine gx_iaload (v := (M (a + 1) k)) k dX8_gainOf_49 ha.k1 ha.l1 ha.n1 rfl (by omega) rfl ?_
          refine go_iconst dX8_gainOf_50 (by decide) ?_
          refine go_icmp_ne (tgt := 57) dX8_gainOf_51 rfl (fun c8 => ?_) (fun c8 => ?_)
          · refine gx_iinc (v := ((k + 1 : Nat) : Int)) (lv' := [(4, vI ((k + 1 : Nat) : Int)), (3, vI ((sumTo (gainF (fun j => M (a + 1) j) (fun j => M (a + 2) j) r) k) + (((worth (M (a + 1) k) (M (a + 2) k)) - (sting (M (a + 1) k) (M (a + 2) k))) - r))), (0, vR a), (1, vI r), (2, vI ((n : Nat) : Int))]) 1 dX8_gainOf_57 rfl (by omega) ⟨by omega, by omega⟩ (by decide) rfl ?_
            refine go_goto (tgt := 5) dX8_gainOf_60 rfl ?_
            have e9 : ((sumTo (gainF (fun j => M (a + 1) j) (fun j => M (a + 2) j) r) k) + (((worth (M (a + 1) k) (M (a + 2) k)) - (sting (M (a + 1) k) (M (a + 2) k))) - r)) = (sumTo (gainF (fun j => M (a + 1) j) (fun j => M (a + 2) j) r) (k + 1)) := by (rw [sumTo_s, gainF]; first | (rw [if_pos ⟨by omega, by omega⟩]; omega) | (rw [if_neg (by omega)]; omega))
            rw [e9]
            exact ih (k + 1) (by omega) (by omega)
          · refine gx_iinc (v := (((sumTo (gainF (fun j => M (a + 1) j) (fun j => M (a + 2) j) r) k) + (((worth (M (a + 1) k) (M (a + 2) k)) - (sting (M (a + 1) k) (M (a + 2) k))) - r)) + 5)) (lv' := [(3, vI (((sumTo (gainF (fun j => M (a + 1) j) (fun j => M (a + 2) j) r) k) + (((worth (M (a + 1) k) (M (a + 2) k)) - (sting (M (a + 1) k) (M (a + 2) k))) - r)) + 5)), (4, vI ((k : Nat) : Int)), (0, vR a), (1, vI r), (2, vI ((n : Nat) : Int))]) 0 dX8_gainOf_54 rfl rfl ⟨by omega, by omega⟩ (by decide) rfl ?_
            refine gx_iinc (v := ((k + 1 : Nat) : Int)) (lv' := [(4, vI ((k + 1 : Nat) : Int)), (3, vI (((sumTo (gainF (fun j => M (a + 1) j) (fun j => M (a + 2) j) r) k) + (((worth (M (a + 1) k) (M (a + 2) k)) - (sting (M (a + 1) k) (M (a + 2) k))) - r)) + 5)), (0, vR a), (1, vI r), (2, vI ((n : Nat) : Int))]) 1 dX8_gainOf_57 rfl (by omega) ⟨by omega, by omega⟩ (by decide) rfl ?_
            refine go_goto (tgt := 5) dX8_gainOf_60 rfl ?_
            have e10 : (((sumTo (gainF (fun j => M (a + 1) j) (fun j => M (a + 2) j) r) k) + (((worth (M (a + 1) k) (M (a + 2) k)) - (sting (M (a + 1) k) (M (a + 2) k))) - r)) + 5) = (sumTo (gainF (fun j => M (a + 1) j) (fun j => M (a + 2) j) r) (k + 1)) := by (rw [sumTo_s, gainF]; first | (rw [if_pos ⟨by omega, by omega⟩]; omega) | (rw [if_neg (by omega)]; omega))
            rw [e10]
            exact ih (k + 1) (by omega) (by omega)

set_option maxHeartbeats 4000000 in
set_option maxRecDepth 100000 in
theorem ok_X8_gainOf {a w L : Nat} {r : Int} {M : inm} {n : Nat} {Q : Int → Nat → rfm → inm → Prop} (ha : On a) (hL : Lay M a L) (hr : 0 ≤ r ∧ r ≤ 9) (hn : n ≤ L) (hQ : Q (sumTo (gainF (fun j => M (a + 1) j) (fun j => M (a + 2) j) r) n) 303 (PP w) M) : OkI yX8_gainOf cX8_gainOf 5 2 0 0 (some .int) [vR a, vI r, vI ((n : Nat) : Int)] 303 (PP w) M Q := by
  refine OkI.of (by decide +kernel) (by decide +kernel) (Nat.le_of_ble_eq_true rfl) ?_
  refine go_eq (lv' := [(0, vR a), (1, vI r), (2, vI ((n : Nat) : Int))]) rfl rfl rfl rfl rfl ?_
  refine go_iconst dX8_gainOf_0 (by decide) ?_
  refine go_istore_n (lv' := [(3, vI 0), (0, vR a), (1, vI r), (2, vI ((n : Nat) : Int))]) dX8_gainOf_1 rfl (by decide) rfl ?_
  refine go_iconst dX8_gainOf_2 (by decide) ?_
  refine go_istore (lv' := [(4, vI 0), (3, vI 0), (0, vR a), (1, vI r), (2, vI ((n : Nat) : Int))]) dX8_gainOf_3 (by decide) rfl ?_
  exact lp_X8_gainOf ha hL hr hn hQ (n + 1) 0 (by omega) (by omega)

set_option maxHeartbeats 4000000 in
set_option maxRecDepth 100000 in
theorem lp_X8_bestPeels {a w L : Nat} {r : Int} {M : inm} {Q : Int → Nat → rfm → inm → Prop} (ha : On a) (hL : Lay M a L) (hr : 0 ≤ r ∧ r ≤ 9) (hQ : Q (fo (bestG (gainF (fun j => M (a + 1) j) (fun j => M (a + 2) j) r)) L (0, 0)).1 303 (PP w) M) : ∀ (d k : Nat), (L + 1) < k + d → 1 ≤ k → k ≤ (L + 1) → Go S0 yX8_bestPeels cX8_bestPeels 6 3 0 0 (some .int) 7 [(4, vI ((k : Nat) : Int)), (2, vI ((fo (bestG (gainF (fun j => M (a + 1) j) (fun j => M (a + 2) j) r)) (k - 1) (0, 0)).1)), (3, vI ((fo (bestG (gainF (fun j => M (a + 1) j) (fun j => M (a + 2) j) r)) (k - 1) (0, 0)).2)), (0, vR a), (1, vI r)] [] 303 (PP w) M (fun v n P M => ∃ z, v = some (vI z) ∧ Q z n P M) := by
  have hL12 := hL.2.1
  intro d
  induction d with
  | zero => intro k h1 h2 h3; exfalso; omega
  | succ d ih =>
    intro k h1 h2 h3
    refine go_iload 0 dX8_bestPeels_7 rfl ?_
    refine go_aload_n 3 dX8_bestPeels_9 rfl rfl ?_
    refine gx_getI (v := ((L : Nat) : Int)) dX8_bestPeels_10 lk8_24.get ha.k0 ha.l0 rfl hL.1 ?_
    refine go_icmp_gt (tgt := 43) dX8_bestPeels_13 rfl (fun c1 => ?_) (fun c1 => ?_)
    · refine go_iload_n 1 dX8_bestPeels_43 rfl rfl ?_
      refine go_iret dX8_bestPeels_44 rfl rfl ⟨_, rfl, ?_⟩
      rw [show k - 1 = L by omega]
      exact hQ
    · refine go_aload_n 3 dX8_bestPeels_16 rfl rfl ?_
      refine go_iload_n 4 dX8_bestPeels_17 rfl rfl ?_
      refine go_iload 0 dX8_bestPeels_18 rfl ?_
      refine go_callSI (av := [vR a, vI r, vI ((k : Nat) : Int)]) (st := []) (mc2 := 0) (ms2 := 0) dX8_bestPeels_20 cw8_30 (by decide) rfl rfl (Nat.le_of_ble_eq_true rfl) rfl rfl (ok_X8_gainOf (n := k) ha hL hr (by omega) ?_)
      refine go_istore (lv' := [(5, vI (sumTo (gainF (fun j => M (a + 1) j) (fun j => M (a + 2) j) r) k)), (4, vI ((k : Nat) : Int)), (2, vI ((fo (bestG (gainF (fun j => M (a + 1) j) (fun j => M (a + 2) j) r)) (k - 1) (0, 0)).1)), (3, vI ((fo (bestG (gainF (fun j => M (a + 1) j) (fun j => M (a + 2) j) r)) (k - 1) (0, 0)).2)), (0, vR a), (1, vI r)]) dX8_bestPeels_23 (by decide) rfl ?_
      refine go_iload 0 dX8_bestPeels_25 rfl ?_
      refine go_iload_n 3 dX8_bestPeels_27 rfl rfl ?_
      refine go_icmp_le (tgt := 37) dX8_bestPeels_28 rfl (fun c2 => ?_) (fun c2 => ?_)
      · refine gx_iinc (v := ((k + 1 : Nat) : Int)) (lv' := [(4, vI ((k + 1 : Nat) : Int)), (5, vI (sumTo (gainF (fun j => M (a + 1) j) (fun j => M (a + 2) j) r) k)), (2, vI ((fo (bestG (gainF (fun j => M (a + 1) j) (fun j => M (a + 2) j) r)) (k - 1) (0, 0)).1)), (3, vI ((fo (bestG (gainF (fun j => M (a + 1) j) (fun j => M (a + 2) j) r)) (k - 1) (0, 0)).2)), (0, vR a), (1, vI r)]) 1 dX8_bestPeels_37 rfl (by omega) ⟨by omega, by omega⟩ (by decide) rfl ?_
        refine go_goto (tgt := 7) dX8_bestPeels_40 rfl ?_
        refine go_lv [0, 2, 3, 4, 5] rfl ?_
        have e3 : (fo (bestG (gainF (fun j => M (a + 1) j) (fun j => M (a + 2) j) r)) (k - 1) (0, 0)).1 = (fo (bestG (gainF (fun j => M (a + 1) j) (fun j => M (a + 2) j) r)) ((k + 1) - 1) (0, 0)).1 := by (rw [show (k + 1) - 1 = (k - 1) + 1 by omega, fo, bestG, show k - 1 + 1 = k by omega]; first | (rw [if_pos (by omega)]; done) | (rw [if_neg (by omega)]; done) | (rw [if_pos (by omega)]; rfl) | (rw [if_neg (by omega)]; rfl))
        rw [e3]
        have e4 : (fo (bestG (gainF (fun j => M (a + 1) j) (fun j => M (a + 2) j) r)) (k - 1) (0, 0)).2 = (fo (bestG (gainF (fun j => M (a + 1) j) (fun j => M (a + 2) j) r)) ((k + 1) - 1) (0, 0)).2 := by (rw [show (k + 1) - 1 = (k - 1) + 1 by omega, fo, bestG, show k - 1 + 1 = k by omega]; first | (rw [if_pos (by omega)]; done) | (rw [if_neg (by omega)]; done) | (rw [if_pos (by omega)]; rfl) | (rw [if_neg (by omega)]; rfl))
        rw [e4]
        exact ih (k + 1) (by omega) (by omega) (by omega)
      · refine go_iload 0 dX8_bestPeels_31 rfl ?_
        refine go_istore_n (lv' := [(3, vI (sumTo (gainF (fun j => M (a + 1) j) (fun j => M (a + 2) j) r) k)), (5, vI (sumTo (gainF (fun j => M (a + 1) j) (fun j => M (a + 2) j) r) k)), (4, vI ((k : Nat) : Int)), (2, vI ((fo (bestG (gainF (fun j => M (a + 1) j) (fun j => M (a + 2) j) r)) (k - 1) (0, 0)).1)), (0, vR a), (1, vI r)]) dX8_bestPeels_33 rfl (by decide) rfl ?_
        refine go_iload 2 dX8_bestPeels_34 rfl ?_
        refine go_istore_n (lv' := [(2, vI ((k : Nat) : Int)), (3, vI (sumTo (gainF (fun j => M (a + 1) j) (fun j => M (a + 2) j) r) k)), (5, vI (sumTo (gainF (fun j => M (a + 1) j) (fun j => M (a + 2) j) r) k)), (4, vI ((k : Nat) : Int)), (0, vR a), (1, vI r)]) dX8_bestPeels_36 rfl (by decide) rfl ?_
        refine gx_iinc (v := ((k + 1 : Nat) : Int)) (lv' := [(4, vI ((k + 1 : Nat) : Int)), (2, vI ((k : Nat) : Int)), (3, vI (sumTo (gainF (fun j => M (a + 1) j) (fun j => M (a + 2) j) r) k)), (5, vI (sumTo (gainF (fun j => M (a + 1) j) (fun j => M (a + 2) j) r) k)), (0, vR a), (1, vI r)]) 3 dX8_bestPeels_37 rfl (by omega) ⟨by omega, by omega⟩ (by decide) rfl ?_
        refine go_goto (tgt := 7) dX8_bestPeels_40 rfl ?_
        refine go_lv [0, 1, 2, 4, 5] rfl ?_
        have e5 : ((k : Nat) : Int) = (fo (bestG (gainF (fun j => M (a + 1) j) (fun j => M (a + 2) j) r)) ((k + 1) - 1) (0, 0)).1 := by (rw [show (k + 1) - 1 = (k - 1) + 1 by omega, fo, bestG, show k - 1 + 1 = k by omega]; first | (rw [if_pos (by omega)]; done) | (rw [if_neg (by omega)]; done) | (rw [if_pos (by omega)]; rfl) | (rw [if_neg (by omega)]; rfl))
        rw [e5]
        have e6 : (sumTo (gainF (fun j => M (a + 1) j) (fun j => M (a + 2) j) r) k) = (fo (bestG (gainF (fun j => M (a + 1) j) (fun j => M (a + 2) j) r)) ((k + 1) - 1) (0, 0)).2 := by (rw [show (k + 1) - 1 = (k - 1) + 1 by omega, fo, bestG, show k - 1 + 1 = k by omega]; first | (rw [if_pos (by omega)]; done) | (rw [if_neg (by omega)]; done) | (rw [if_pos (by omega)]; rfl) | (rw [if_neg (by omega)]; rfl))
        rw [e6]
        exact ih (k + 1) (by omega) (by omega) (by omega)

set_option maxHeartbeats 4000000 in
set_option maxRecDepth 100000 in
theorem ok_X8_bestPeels {a w L : Nat} {r : Int} {M : inm} {Q : Int → Nat → rfm → inm → Prop} (ha : On a) (hL : Lay M a L) (hr : 0 ≤ r ∧ r ≤ 9) (hQ : Q (fo (bestG (gainF (fun j => M (a + 1) j) (fun j => M (a + 2) j) r)) L (0, 0)).1 303 (PP w) M) : OkI yX8_bestPeels cX8_bestPeels 6 3 0 0 (some .int) [vR a, vI r] 303 (PP w) M Q := by
  refine OkI.of (by decide +kernel) (by decide +kernel) (Nat.le_of_ble_eq_true rfl) ?_
  refine go_eq (lv' := [(0, vR a), (1, vI r)]) rfl rfl rfl rfl rfl ?_
  refine go_iconst dX8_bestPeels_0 (by decide) ?_
  refine go_istore_n (lv' := [(2, vI 0), (0, vR a), (1, vI r)]) dX8_bestPeels_1 rfl (by decide) rfl ?_
  refine go_iconst dX8_bestPeels_2 (by decide) ?_
  refine go_istore_n (lv' := [(3, vI 0), (2, vI 0), (0, vR a), (1, vI r)]) dX8_bestPeels_3 rfl (by decide) rfl ?_
  refine go_iconst dX8_bestPeels_4 (by decide) ?_
  refine go_istore (lv' := [(4, vI 1), (3, vI 0), (2, vI 0), (0, vR a), (1, vI r)]) dX8_bestPeels_5 (by decide) rfl ?_
  refine go_lv [0, 2, 1, 3, 4] rfl ?_
  refine go_eq (lv' := [(4, vI 1), (2, vI ((fo (bestG (gainF (fun j => M (a + 1) j) (fun j => M (a + 2) j) r)) (1 - 1) (0, 0)).1)), (3, vI ((fo (bestG (gainF (fun j => M (a + 1) j) (fun j => M (a + 2) j) r)) (1 - 1) (0, 0)).2)), (0, vR a), (1, vI r)]) (rfl) rfl rfl rfl rfl ?_
  exact lp_X8_bestPeels ha hL hr hQ (L + 2) 1 (by omega) (by omega) (by omega)

/-- BY TURNS from behind: the value at L - d, that at L - d + 1, how many he peels -/
def btS (W : Nat → Int) (L : Nat) : Nat → Int × Int × Int
  | 0 => (0, 0, 0)
  | d + 1 => if d = 0 then (W (L - 1) - (btS W L d).1, (btS W L d).1, 1) else if W (L - (d + 1)) - (btS W L d).1 < W (L - (d + 1)) + W (L - (d + 1) + 1) - (btS W L d).2.1 then (W (L - (d + 1)) + W (L - (d + 1) + 1) - (btS W L d).2.1, (btS W L d).1, 2) else (W (L - (d + 1)) - (btS W L d).1, (btS W L d).1, 1)
theorem bt_in {W : Nat → Int} {L : Nat} (hW : ∀ j, j < L → 0 ≤ W j ∧ W j ≤ 40) : ∀ d, d ≤ L → (-(80 * (d : Int)) ≤ (btS W L d).1 ∧ (btS W L d).1 ≤ 80 * d) ∧ (-(80 * (d : Int)) ≤ (btS W L d).2.1 ∧ (btS W L d).2.1 ≤ 80 * d)
  | 0, _ => by show (-(80 * ((0 : Nat) : Int)) ≤ 0 ∧ (0 : Int) ≤ 80 * ((0 : Nat) : Int)) ∧ _ ; exact ⟨by omega, by show -(80 * ((0 : Nat) : Int)) ≤ 0 ∧ (0 : Int) ≤ 80 * ((0 : Nat) : Int); omega⟩
  | d + 1, hd => by
    have ih := bt_in hW d (by omega)
    have h1 := hW (L - (d + 1)) (by omega)
    rw [btS]
    split
    · have h2 := hW (L - 1) (by omega)
      exact ⟨by show _ ≤ W (L - 1) - (btS W L d).1 ∧ W (L - 1) - (btS W L d).1 ≤ _; omega, by show _ ≤ (btS W L d).1 ∧ (btS W L d).1 ≤ _; omega⟩
    · have h2 := hW (L - (d + 1) + 1) (by omega)
      split
      · exact ⟨by show _ ≤ W (L - (d + 1)) + W (L - (d + 1) + 1) - (btS W L d).2.1 ∧ W (L - (d + 1)) + W (L - (d + 1) + 1) - (btS W L d).2.1 ≤ _; omega, by show _ ≤ (btS W L d).1 ∧ (btS W L d).1 ≤ _; omega⟩
      · exact ⟨by show _ ≤ W (L - (d + 1)) - (btS W L d).1 ∧ W (L - (d + 1)) - (btS W L d).1 ≤ _; omega, by show _ ≤ (btS W L d).1 ∧ (btS W L d).1 ≤ _; omega⟩
set_option maxHeartbeats 4000000 in
set_option maxRecDepth 100000 in
theorem lp_X8_playByTurns {a w L : Nat} {M : inm} {Q : Int → Nat → rfm → inm → Prop} (ha : On a) (hL : Lay M a L) (hQ : ∀ M' : inm, Sc M M' → M' 274 0 = (btS (fun j => worth (M (a + 1) j) (M (a + 2) j)) L L).1 → Q (btS (fun j => worth (M (a + 1) j) (M (a + 2) j)) L L).2.2 303 (PP w) M') : ∀ m, m ≤ L → ∀ M' : inm, Sc M M' → M' 274 m = (btS (fun j => worth (M (a + 1) j) (M (a + 2) j)) L (L - m)).1 → (m < L → M' 274 (m + 1) = (btS (fun j => worth (M (a + 1) j) (M (a + 2) j)) L (L - m)).2.1) → Go S0 yX8_playByTurns cX8_playByTurns 6 2 0 0 (some .int) 19 [(3, vI ((m : Int) - 1)), (2, vI (btS (fun j => worth (M (a + 1) j) (M (a + 2) j)) L (L - m)).2.2), (0, vR 273), (1, vR a)] [] 303 (PP w) M' (fun v n P M => ∃ z, v = some (vI z) ∧ Q z n P M) := by
  have hL12 := hL.2.1
  have hasc := ha.sc (j := 6) (by omega)
  have hW : ∀ j, j < L → 0 ≤ (fun j => worth (M (a + 1) j) (M (a + 2) j)) j ∧ (fun j => worth (M (a + 1) j) (M (a + 2) j)) j ≤ 40 := fun j hj => by have h9 := hL.2.2.1 j hj; have h8 := worth_in (c := M (a + 1) j) h9.1; exact ⟨h8.1, by show worth (M (a + 1) j) (M (a + 2) j) ≤ 40; omega⟩
  intro m
  induction m with
  | zero =>
    intro hm M' hs h1 h2
    refine go_iload_n 0 dX8_playByTurns_19 rfl rfl ?_
    refine go_if_lt (tgt := 106) dX8_playByTurns_20 rfl (fun c1 => ?_) (fun c1 => ?_)
    · refine go_iload_n 1 dX8_playByTurns_106 rfl rfl ?_
      refine go_iret dX8_playByTurns_107 rfl rfl ⟨_, rfl, ?_⟩
      exact hQ M' hs h1
    · exact absurd c1 (by omega)
  | succ m ih =>
    intro hm M' hs h1 h2
    have hb := bt_in hW (L - (m + 1)) (by omega)
    have hLs := hL.sc ha hs
    refine go_eq (lv' := [(3, vI ((m : Nat) : Int)), (2, vI (btS (fun j => worth (M (a + 1) j) (M (a + 2) j)) L (L - (m + 1))).2.2), (0, vR 273), (1, vR a)]) (by rw [show ((m + 1 : Nat) : Int) - 1 = ((m : Nat) : Int) by omega]) rfl rfl rfl rfl ?_
    refine go_iload_n 0 dX8_playByTurns_19 rfl rfl ?_
    refine go_if_lt (tgt := 106) dX8_playByTurns_20 rfl (fun c1 => ?_) (fun c1 => ?_)
    · exact absurd c1 (by omega)
    · refine go_aload_n 3 dX8_playByTurns_23 rfl rfl ?_
      refine go_iload_n 0 dX8_playByTurns_24 rfl rfl ?_
      refine go_callVI (av := [vI ((m : Nat) : Int)]) (st := []) (a := a) (mc2 := 0) (ms2 := 0) dX8_playByTurns_25 cw8_34 (by decide) rfl rfl (Nat.le_of_ble_eq_true rfl) rfl rfl ha.k0 ⟨_, _, rfl⟩ (by decide) ha.l0 (ok_X6_worthOf (k := m) (M := M') ha (by rw [(hL.sc ha hs).1]; omega) (by omega) ((hL.sc ha hs).2.2.1 m (by omega)) ?_)
      rw [hs (a + 1) m (Or.inl (ha.sc (by omega))), hs (a + 2) m (Or.inl (ha.sc (by omega)))]
      have g2 := worth_in (c := M (a + 1) m) (hL.2.2.1 m (by omega)).1
      have g2b := hL.2.2.1 m (by omega)
      refine go_aload_n 2 dX8_playByTurns_28 rfl rfl ?_
      refine go_getR (r := 274) dX8_playByTurns_29 lk8_9.get kd_273 (by omega) rfl (pp_273_0 w) ?_
      refine go_iload_n 0 dX8_playByTurns_32 rfl rfl ?_
      refine go_iconst dX8_playByTurns_33 (by decide) ?_
      refine gx_iadd (v := ((m + 1 : Nat) : Int)) dX8_playByTurns_34 (by omega) ⟨by omega, by omega⟩ ?_
      refine gx_iaload (v := (btS (fun j => worth (M (a + 1) j) (M (a + 2) j)) L (L - (m + 1))).1) (m + 1) dX8_playByTurns_35 kd_274 (by omega) ln_274 rfl (by omega) h1 ?_
      refine gx_isub (v := ((worth (M (a + 1) m) (M (a + 2) m)) - (btS (fun j => worth (M (a + 1) j) (M (a + 2) j)) L (L - (m + 1))).1)) dX8_playByTurns_36 rfl ⟨by omega, by omega⟩ ?_
      refine go_istore (lv' := [(4, vI ((worth (M (a + 1) m) (M (a + 2) m)) - (btS (fun j => worth (M (a + 1) j) (M (a + 2) j)) L (L - (m + 1))).1)), (3, vI ((m : Nat) : Int)), (2, vI ((btS (fun j => worth (M (a + 1) j) (M (a + 2) j)) L (L - (m + 1))).2.2)), (0, vR 273), (1, vR a)]) dX8_playByTurns_37 (by decide) rfl ?_
      refine go_iconst dX8_playByTurns_39 (by decide) ?_
      refine go_istore_n (lv' := [(2, vI 1), (4, vI ((worth (M (a + 1) m) (M (a + 2) m)) - (btS (fun j => worth (M (a + 1) j) (M (a + 2) j)) L (L - (m + 1))).1)), (3, vI ((m : Nat) : Int)), (0, vR 273), (1, vR a)]) dX8_playByTurns_40 rfl (by decide) rfl ?_
      refine go_aload_n 3 dX8_playByTurns_41 rfl rfl ?_
      refine go_getR (r := 274) dX8_playByTurns_42 lk8_9.get kd_273 (by omega) rfl (pp_273_0 w) ?_
      refine go_iload_n 2 dX8_playByTurns_45 rfl rfl ?_
      refine go_iload 1 dX8_playByTurns_46 rfl ?_
      refine gx_iastore m dX8_playByTurns_48 kd_274 (by omega) ln_274 rfl (by omega) ?_
      refine go_iload_n 2 dX8_playByTurns_49 rfl rfl ?_
      refine go_iconst dX8_playByTurns_50 (by decide) ?_
      refine gx_iadd (v := ((m + 2 : Nat) : Int)) dX8_playByTurns_51 (by omega) ⟨by omega, by omega⟩ ?_
      refine go_aload_n 4 dX8_playByTurns_52 rfl rfl ?_
      refine gx_getI (v := ((L : Nat) : Int)) dX8_playByTurns_53 lk8_24.get ha.k0 ha.l0 rfl ((up2_ne (by omega)).trans hLs.1) ?_
      refine go_icmp_gt (tgt := 100) dX8_playByTurns_56 rfl (fun c3 => ?_) (fun c3 => ?_)
      · refine gx_iinc (v := (((m : Nat) : Int) + (-1))) (lv' := [(3, vI (((m : Nat) : Int) + (-1))), (2, vI 1), (4, vI ((worth (M (a + 1) m) (M (a + 2) m)) - (btS (fun j => worth (M (a + 1) j) (M (a + 2) j)) L (L - (m + 1))).1)), (0, vR 273), (1, vR a)]) 2 dX8_playByTurns_100 rfl rfl ⟨by omega, by omega⟩ (by decide) rfl ?_
        refine go_goto (tgt := 19) dX8_playByTurns_103 rfl ?_
        refine go_lv [0, 1, 3, 4] rfl ?_
        have hd : L - m = (L - (m + 1)) + 1 := by omega
        have he : (btS (fun j => worth (M (a + 1) j) (M (a + 2) j)) L (L - m)) = (((worth (M (a + 1) m) (M (a + 2) m)) - (btS (fun j => worth (M (a + 1) j) (M (a + 2) j)) L (L - (m + 1))).1), (btS (fun j => worth (M (a + 1) j) (M (a + 2) j)) L (L - (m + 1))).1, 1) := by
          rw [hd, btS]
          simp only [show L - ((L - (m + 1)) + 1) = m by omega]
          first | (rw [if_pos (by omega), show L - 1 = m by omega]; done) | (rw [if_neg (by omega), if_pos (by omega)]; done) | (rw [if_neg (by omega), if_neg (by omega)]; done)
        refine go_eq (lv' := [(3, vI ((m : Int) - 1)), (2, vI (btS (fun j => worth (M (a + 1) j) (M (a + 2) j)) L (L - m)).2.2), (0, vR 273), (1, vR a)]) (by rw [he]; rfl) rfl rfl rfl rfl ?_
        refine ih (by omega) _ (hs.up (by omega)) (by rw [he]; exact up2_same) (fun _ => by rw [he]; exact ((up2_ne (by omega)).trans h1))
      · refine go_aload_n 4 dX8_playByTurns_59 rfl rfl ?_
        refine go_iload_n 2 dX8_playByTurns_60 rfl rfl ?_
        refine go_callVI (av := [vI ((m : Nat) : Int)]) (st := []) (a := a) (mc2 := 0) (ms2 := 0) dX8_playByTurns_61 cw8_34 (by decide) rfl rfl (Nat.le_of_ble_eq_true rfl) rfl rfl ha.k0 ⟨_, _, rfl⟩ (by decide) ha.l0 (ok_X6_worthOf (k := m) (M := (up2 M' 274 m ((worth (M (a + 1) m) (M (a + 2) m)) - (btS (fun j => worth (M (a + 1) j) (M (a + 2) j)) L (L - (m + 1))).1))) ha (by rw [(hL.sc ha (hs.up (by omega))).1]; omega) (by omega) ((hL.sc ha (hs.up (by omega))).2.2.1 m (by omega)) ?_)
        rw [(hs.up (by omega)) (a + 1) m (Or.inl (ha.sc (by omega))), (hs.up (by omega)) (a + 2) m (Or.inl (ha.sc (by omega)))]
        have g4 := worth_in (c := M (a + 1) m) (hL.2.2.1 m (by omega)).1
        have g4b := hL.2.2.1 m (by omega)
        refine go_aload_n 4 dX8_playByTurns_64 rfl rfl ?_
        refine go_iload_n 2 dX8_playByTurns_65 rfl rfl ?_
        refine go_iconst dX8_playByTurns_66 (by decide) ?_
        refine gx_iadd (v := ((m + 1 : Nat) : Int)) dX8_playByTurns_67 (by omega) ⟨by omega, by omega⟩ ?_
        refine go_callVI (av := [vI ((m + 1 : Nat) : Int)]) (st := [vI (worth (M (a + 1) m) (M (a + 2) m))]) (a := a) (mc2 := 0) (ms2 := 0) dX8_playByTurns_68 cw8_34 (by decide) rfl rfl (Nat.le_of_ble_eq_true rfl) rfl rfl ha.k0 ⟨_, _, rfl⟩ (by decide) ha.l0 (ok_X6_worthOf (k := m + 1) (M := (up2 M' 274 m ((worth (M (a + 1) m) (M (a + 2) m)) - (btS (fun j => worth (M (a + 1) j) (M (a + 2) j)) L (L - (m + 1))).1))) ha (by rw [(hL.sc ha (hs.up (by omega))).1]; omega) (by omega) ((hL.sc ha (hs.up (by omega))).2.2.1 (m + 1) (by omega)) ?_)
        rw [(hs.up (by omega)) (a + 1) (m + 1) (Or.inl (ha.sc (by omega))), (hs.up (by omega)) (a + 2) (m + 1) (Or.inl (ha.sc (by omega)))]
        have g5 := worth_in (c := M (a + 1) (m + 1)) (hL.2.2.1 (m + 1) (by omega)).1
        have g5b := hL.2.2.1 (m + 1) (by omega)
        refine gx_iadd (v := ((worth (M (a + 1) m) (M (a + 2) m)) + (worth (M (a + 1) (m + 1)) (M (a + 2) (m + 1))))) dX8_playByTurns_71 rfl ⟨by omega, by omega⟩ ?_
        refine go_aload_n 3 dX8_playByTurns_72 rfl rfl ?_
        refine go_getR (r := 274) dX8_playByTurns_73 lk8_9.get kd_273 (by omega) rfl (pp_273_0 w) ?_
        refine go_iload_n 2 dX8_playByTurns_76 rfl rfl ?_
        refine go_iconst dX8_playByTurns_77 (by decide) ?_
        refine gx_iadd (v := ((m + 2 : Nat) : Int)) dX8_playByTurns_78 (by omega) ⟨by omega, by omega⟩ ?_
        refine gx_iaload (v := (btS (fun j => worth (M (a + 1) j) (M (a + 2) j)) L (L - (m + 1))).2.1) (m + 2) dX8_playByTurns_79 kd_274 (by omega) ln_274 rfl (by omega) ((up2_ne (by omega)).trans ((h2 (by omega)))) ?_
        refine gx_isub (v := (((worth (M (a + 1) m) (M (a + 2) m)) + (worth (M (a + 1) (m + 1)) (M (a + 2) (m + 1)))) - (btS (fun j => worth (M (a + 1) j) (M (a + 2) j)) L (L - (m + 1))).2.1)) dX8_playByTurns_80 rfl ⟨by omega, by omega⟩ ?_
        refine go_istore (lv' := [(5, vI (((worth (M (a + 1) m) (M (a + 2) m)) + (worth (M (a + 1) (m + 1)) (M (a + 2) (m + 1)))) - (btS (fun j => worth (M (a + 1) j) (M (a + 2) j)) L (L - (m + 1))).2.1)), (2, vI 1), (4, vI ((worth (M (a + 1) m) (M (a + 2) m)) - (btS (fun j => worth (M (a + 1) j) (M (a + 2) j)) L (L - (m + 1))).1)), (3, vI ((m : Nat) : Int)), (0, vR 273), (1, vR a)]) dX8_playByTurns_81 (by decide) rfl ?_
        refine go_iload 0 dX8_playByTurns_83 rfl ?_
        refine go_iload 2 dX8_playByTurns_85 rfl ?_
        refine go_icmp_le (tgt := 100) dX8_playByTurns_87 rfl (fun c6 => ?_) (fun c6 => ?_)
        · refine gx_iinc (v := (((m : Nat) : Int) + (-1))) (lv' := [(3, vI (((m : Nat) : Int) + (-1))), (5, vI (((worth (M (a + 1) m) (M (a + 2) m)) + (worth (M (a + 1) (m + 1)) (M (a + 2) (m + 1)))) - (btS (fun j => worth (M (a + 1) j) (M (a + 2) j)) L (L - (m + 1))).2.1)), (2, vI 1), (4, vI ((worth (M (a + 1) m) (M (a + 2) m)) - (btS (fun j => worth (M (a + 1) j) (M (a + 2) j)) L (L - (m + 1))).1)), (0, vR 273), (1, vR a)]) 3 dX8_playByTurns_100 rfl rfl ⟨by omega, by omega⟩ (by decide) rfl ?_
          refine go_goto (tgt := 19) dX8_playByTurns_103 rfl ?_
          refine go_lv [0, 2, 4, 5] rfl ?_
          have hd : L - m = (L - (m + 1)) + 1 := by omega
          have he : (btS (fun j => worth (M (a + 1) j) (M (a + 2) j)) L (L - m)) = (((worth (M (a + 1) m) (M (a + 2) m)) - (btS (fun j => worth (M (a + 1) j) (M (a + 2) j)) L (L - (m + 1))).1), (btS (fun j => worth (M (a + 1) j) (M (a + 2) j)) L (L - (m + 1))).1, 1) := by
            rw [hd, btS]
            simp only [show L - ((L - (m + 1)) + 1) = m by omega]
            first | (rw [if_pos (by omega), show L - 1 = m by omega]; done) | (rw [if_neg (by omega), if_pos (by omega)]; done) | (rw [if_neg (by omega), if_neg (by omega)]; done)
          refine go_eq (lv' := [(3, vI ((m : Int) - 1)), (2, vI (btS (fun j => worth (M (a + 1) j) (M (a + 2) j)) L (L - m)).2.2), (0, vR 273), (1, vR a)]) (by rw [he]; rfl) rfl rfl rfl rfl ?_
          refine ih (by omega) _ (hs.up (by omega)) (by rw [he]; exact up2_same) (fun _ => by rw [he]; exact ((up2_ne (by omega)).trans h1))
        · refine go_iconst dX8_playByTurns_90 (by decide) ?_
          refine go_istore_n (lv' := [(2, vI 2), (5, vI (((worth (M (a + 1) m) (M (a + 2) m)) + (worth (M (a + 1) (m + 1)) (M (a + 2) (m + 1)))) - (btS (fun j => worth (M (a + 1) j) (M (a + 2) j)) L (L - (m + 1))).2.1)), (4, vI ((worth (M (a + 1) m) (M (a + 2) m)) - (btS (fun j => worth (M (a + 1) j) (M (a + 2) j)) L (L - (m + 1))).1)), (3, vI ((m : Nat) : Int)), (0, vR 273), (1, vR a)]) dX8_playByTurns_91 rfl (by decide) rfl ?_
          refine go_aload_n 4 dX8_playByTurns_92 rfl rfl ?_
          refine go_getR (r := 274) dX8_playByTurns_93 lk8_9.get kd_273 (by omega) rfl (pp_273_0 w) ?_
          refine go_iload_n 3 dX8_playByTurns_96 rfl rfl ?_
          refine go_iload 1 dX8_playByTurns_97 rfl ?_
          refine gx_iastore m dX8_playByTurns_99 kd_274 (by omega) ln_274 rfl (by omega) ?_
          refine gx_iinc (v := (((m : Nat) : Int) + (-1))) (lv' := [(3, vI (((m : Nat) : Int) + (-1))), (2, vI 2), (5, vI (((worth (M (a + 1) m) (M (a + 2) m)) + (worth (M (a + 1) (m + 1)) (M (a + 2) (m + 1)))) - (btS (fun j => worth (M (a + 1) j) (M (a + 2) j)) L (L - (m + 1))).2.1)), (4, vI ((worth (M (a + 1) m) (M (a + 2) m)) - (btS (fun j => worth (M (a + 1) j) (M (a + 2) j)) L (L - (m + 1))).1)), (0, vR 273), (1, vR a)]) 3 dX8_playByTurns_100 rfl rfl ⟨by omega, by omega⟩ (by decide) rfl ?_
          refine go_goto (tgt := 19) dX8_playByTurns_103 rfl ?_
          refine go_lv [0, 1, 4, 5] rfl ?_
          have hd : L - m = (L - (m + 1)) + 1 := by omega
          have he : (btS (fun j => worth (M (a + 1) j) (M (a + 2) j)) L (L - m)) = ((((worth (M (a + 1) m) (M (a + 2) m)) + (worth (M (a + 1) (m + 1)) (M (a + 2) (m + 1)))) - (btS (fun j => worth (M (a + 1) j) (M (a + 2) j)) L (L - (m + 1))).2.1), (btS (fun j => worth (M (a + 1) j) (M (a + 2) j)) L (L - (m + 1))).1, 2) := by
            rw [hd, btS]
            simp only [show L - ((L - (m + 1)) + 1) = m by omega]
            first | (rw [if_pos (by omega), show L - 1 = m by omega]; done) | (rw [if_neg (by omega), if_pos (by omega)]; done) | (rw [if_neg (by omega), if_neg (by omega)]; done)
          refine go_eq (lv' := [(3, vI ((m : Int) - 1)), (2, vI (btS (fun j => worth (M (a + 1) j) (M (a + 2) j)) L (L - m)).2.2), (0, vR 273), (1, vR a)]) (by rw [he]; rfl) rfl rfl rfl rfl ?_
          refine ih (by omega) _ ((hs.up (by omega)).up (by omega)) (by rw [he]; exact up2_same) (fun _ => by rw [he]; exact ((up2_ne (by omega)).trans ((up2_ne (by omega)).trans h1)))

set_option maxHeartbeats 4000000 in
set_option maxRecDepth 100000 in
theorem ok_X8_playByTurns {a w L : Nat} {M : inm} {Q : Int → Nat → rfm → inm → Prop} (ha : On a) (hL : Lay M a L) (hQ : ∀ M' : inm, Sc M M' → M' 274 0 = (btS (fun j => worth (M (a + 1) j) (M (a + 2) j)) L L).1 → Q (btS (fun j => worth (M (a + 1) j) (M (a + 2) j)) L L).2.2 303 (PP w) M') : OkI yX8_playByTurns cX8_playByTurns 6 2 0 0 (some .int) [vR 273, vR a] 303 (PP w) M Q := by
  refine OkI.of (by decide +kernel) (by decide +kernel) (Nat.le_of_ble_eq_true rfl) ?_
  refine go_eq (lv' := [(0, vR 273), (1, vR a)]) rfl rfl rfl rfl rfl ?_
  have hL12 := hL.2.1
  have hasc := ha.sc (j := 6) (by omega)
  refine go_aload_n 0 dX8_playByTurns_0 rfl rfl ?_
  refine go_getR (r := 274) dX8_playByTurns_1 lk8_9.get kd_273 (by omega) rfl (pp_273_0 w) ?_
  refine go_aload_n 1 dX8_playByTurns_4 rfl rfl ?_
  refine gx_getI (v := ((L : Nat) : Int)) dX8_playByTurns_5 lk8_24.get ha.k0 ha.l0 rfl hL.1 ?_
  refine go_iconst dX8_playByTurns_8 (by decide) ?_
  refine gx_iastore L dX8_playByTurns_9 kd_274 (by omega) ln_274 rfl (by omega) ?_
  refine go_iconst dX8_playByTurns_10 (by decide) ?_
  refine go_istore_n (lv' := [(2, vI 0), (0, vR 273), (1, vR a)]) dX8_playByTurns_11 rfl (by decide) rfl ?_
  refine go_aload_n 2 dX8_playByTurns_12 rfl rfl ?_
  refine gx_getI (v := ((L : Nat) : Int)) dX8_playByTurns_13 lk8_24.get ha.k0 ha.l0 rfl ((up2_ne (by omega)).trans hL.1) ?_
  refine go_iconst dX8_playByTurns_16 (by decide) ?_
  refine gx_isub (v := (((L : Nat) : Int) - 1)) dX8_playByTurns_17 rfl ⟨by omega, by omega⟩ ?_
  refine go_istore_n (lv' := [(3, vI (((L : Nat) : Int) - 1)), (2, vI 0), (0, vR 273), (1, vR a)]) dX8_playByTurns_18 rfl (by decide) rfl ?_
  refine go_lv [0, 1, 2, 3] rfl ?_
  refine go_eq (lv' := [(3, vI ((L : Int) - 1)), (2, vI (btS (fun j => worth (M (a + 1) j) (M (a + 2) j)) L (L - L)).2.2), (0, vR 273), (1, vR a)]) (by rw [Nat.sub_self]; rfl) rfl rfl rfl rfl ?_
  exact lp_X8_playByTurns ha hL hQ L (Nat.le_refl L) _ ((Sc.rf M).up (by omega)) (by rw [Nat.sub_self]; exact up2_same) (fun h => absurd h (by omega))

