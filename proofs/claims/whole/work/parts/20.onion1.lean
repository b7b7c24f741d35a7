/-! ===== Onion: what is read off it ===== -/
set_option maxHeartbeats 4000000 in
set_option maxRecDepth 100000 in
theorem lp_X6_allThick {a w L : Nat} {M : inm} {Q : Int → Nat → rfm → inm → Prop} (ha : On a) (hL : Lay M a L) (hQ : Q (sumTo (fun j => M (a + 2) j) L) 303 (PP w) M) : ∀ (d k : Nat), L < k + d → k ≤ L → Go S0 yX6_allThick cX6_allThick 3 0 0 0 (some .int) 4 [(2, vI ((k : Nat) : Int)), (1, vI (sumTo (fun j => M (a + 2) j) k)), (0, vR a)] [] 303 (PP w) M (fun v n P M => ∃ z, v = some (vI z) ∧ Q z n P M) := by
  have hL12 := hL.2.1
  intro d
  induction d with
  | zero => intro k h1 h2; exfalso; omega
  | succ d ih =>
    intro k h1 h2
    have hs := sumTo_in (f := (fun j => M (a + 2) j)) (b := 20) k (fun j hj => hL.2.2.1 j (by omega))
    refine go_iload_n 0 dX6_allThick_4 rfl rfl ?_
    refine go_aload_n 2 dX6_allThick_5 rfl rfl ?_
    refine gx_getI (v := ((L : Nat) : Int)) dX6_allThick_6 lk6_9.get ha.k0 ha.l0 rfl hL.1 ?_
    refine go_icmp_ge (tgt := 27) dX6_allThick_9 rfl (fun c1 => ?_) (fun c1 => ?_)
    · refine go_iload_n 1 dX6_allThick_27 rfl rfl ?_
      refine go_iret dX6_allThick_28 rfl rfl ⟨_, rfl, ?_⟩
      rw [show k = L by omega]
      exact hQ
    · refine go_iload_n 1 dX6_allThick_12 rfl rfl ?_
      refine go_aload_n 2 dX6_allThick_13 rfl rfl ?_
      refine go_getR (r := (a + 2)) dX6_allThick_14 lk6_19.get ha.k0 ha.l0 rfl (ha.p2 _) ?_
      refine go_iload_n 0 dX6_allThick_17 rfl rfl ?_
      have f2 := hL.2.2.1 k (by omega)
      refine gx_iaload (v := (M (a + 2) k)) k dX6_allThick_18 ha.k2 ha.l2 ha.n2 rfl (by omega) rfl ?_
      refine gx_iadd (v := ((sumTo (fun j => M (a + 2) j) k) + (M (a + 2) k))) dX6_allThick_19 rfl ⟨by omega, by omega⟩ ?_
      refine go_istore_n (lv' := [(1, vI ((sumTo (fun j => M (a + 2) j) k) + (M (a + 2) k))), (2, vI ((k : Nat) : Int)), (0, vR a)]) dX6_allThick_20 rfl (by decide) rfl ?_
      refine gx_iinc (v := ((k + 1 : Nat) : Int)) (lv' := [(2, vI ((k + 1 : Nat) : Int)), (1, vI ((sumTo (fun j => M (a + 2) j) k) + (M (a + 2) k))), (0, vR a)]) 1 dX6_allThick_21 rfl (by omega) ⟨by omega, by omega⟩ (by decide) rfl ?_
      refine go_goto (tgt := 4) dX6_allThick_24 rfl ?_
      have e3 : ((sumTo (fun j => M (a + 2) j) k) + (M (a + 2) k)) = (sumTo (fun j => M (a + 2) j) (k + 1)) := by rfl
      rw [e3]
      exact ih (k + 1) (by omega) (by omega)

set_option maxHeartbeats 4000000 in
set_option maxRecDepth 100000 in
theorem ok_X6_allThick {a w L : Nat} {M : inm} {Q : Int → Nat → rfm → inm → Prop} (ha : On a) (hL : Lay M a L) (hQ : Q (sumTo (fun j => M (a + 2) j) L) 303 (PP w) M) : OkI yX6_allThick cX6_allThick 3 0 0 0 (some .int) [vR a] 303 (PP w) M Q := by
  refine OkI.of (by decide +kernel) (by decide +kernel) (Nat.le_of_ble_eq_true rfl) ?_
  refine go_eq (lv' := [(0, vR a)]) rfl rfl rfl rfl rfl ?_
  have hL12 := hL.2.1
  refine go_iconst dX6_allThick_0 (by decide) ?_
  refine go_istore_n (lv' := [(1, vI 0), (0, vR a)]) dX6_allThick_1 rfl (by decide) rfl ?_
  refine go_iconst dX6_allThick_2 (by decide) ?_
  refine go_istore_n (lv' := [(2, vI 0), (1, vI 0), (0, vR a)]) dX6_allThick_3 rfl (by decide) rfl ?_
  exact lp_X6_allThick ha hL hQ (L + 1) 0 (by omega) (by omega)

set_option maxHeartbeats 4000000 in
set_option maxRecDepth 100000 in
theorem lp_X6_worthBetween {a w L : Nat} {M : inm} {f g : Nat} {Q : Int → Nat → rfm → inm → Prop} (ha : On a) (hL : Lay M a L) (hg : g ≤ L) (hQ : Q (sumTo (fun j => worth (M (a + 1) j) (M (a + 2) j)) g - sumTo (fun j => worth (M (a + 1) j) (M (a + 2) j)) f) 303 (PP w) M) : ∀ (d k : Nat), g < k + d → f ≤ k → k ≤ g → Go S0 yX6_worthBetween cX6_worthBetween 5 2 0 0 (some .int) 5 [(4, vI ((k : Nat) : Int)), (3, vI (sumTo (fun j => worth (M (a + 1) j) (M (a + 2) j)) k - sumTo (fun j => worth (M (a + 1) j) (M (a + 2) j)) f)), (0, vR a), (1, vI ((f : Nat) : Int)), (2, vI ((g : Nat) : Int))] [] 303 (PP w) M (fun v n P M => ∃ z, v = some (vI z) ∧ Q z n P M) := by
  have hL12 := hL.2.1
  intro d
  induction d with
  | zero => intro k h1 h2 h3; exfalso; omega
  | succ d ih =>
    intro k h1 h2 h3
    have hs := sumTo_in (f := (fun j => worth (M (a + 1) j) (M (a + 2) j))) (b := 40) k (fun j hj => by have h9 := hL.2.2.1 j (by omega); have := worth_in (c := M (a + 1) j) h9.1; exact ⟨this.1, by omega⟩)
    have hs2 := sumTo_in (f := (fun j => worth (M (a + 1) j) (M (a + 2) j))) (b := 40) f (fun j hj => by have h9 := hL.2.2.1 j (by omega); have := worth_in (c := M (a + 1) j) h9.1; exact ⟨this.1, by omega⟩)
    refine go_iload 0 dX6_worthBetween_5 rfl ?_
    refine go_iload_n 4 dX6_worthBetween_7 rfl rfl ?_
    refine go_icmp_ge (tgt := 26) dX6_worthBetween_8 rfl (fun c1 => ?_) (fun c1 => ?_)
    · refine go_iload_n 1 dX6_worthBetween_26 rfl rfl ?_
      refine go_iret dX6_worthBetween_27 rfl rfl ⟨_, rfl, ?_⟩
      rw [show k = g by omega]
      exact hQ
    · refine go_iload_n 1 dX6_worthBetween_11 rfl rfl ?_
      refine go_aload_n 2 dX6_worthBetween_12 rfl rfl ?_
      refine go_iload 0 dX6_worthBetween_13 rfl ?_
      refine go_callVI (av := [vI ((k : Nat) : Int)]) (st := [vI (sumTo (fun j => worth (M (a + 1) j) (M (a + 2) j)) k - sumTo (fun j => worth (M (a + 1) j) (M (a + 2) j)) f)]) (a := a) (mc2 := 0) (ms2 := 0) dX6_worthBetween_15 cw6_68 (by decide) rfl rfl (Nat.le_of_ble_eq_true rfl) rfl rfl ha.k0 ⟨_, _, rfl⟩ (by decide) ha.l0 (ok_X6_worthOf (k := k) ha (by rw [hL.1]; omega) (by omega) (hL.2.2.1 k (by omega)) ?_)
      have g2 := worth_in (c := M (a + 1) k) (hL.2.2.1 k (by omega)).1
      have g2b := hL.2.2.1 k (by omega)
      refine gx_iadd (v := ((sumTo (fun j => worth (M (a + 1) j) (M (a + 2) j)) k - sumTo (fun j => worth (M (a + 1) j) (M (a + 2) j)) f) + (worth (M (a + 1) k) (M (a + 2) k)))) dX6_worthBetween_18 rfl ⟨by omega, by omega⟩ ?_
      refine go_istore_n (lv' := [(3, vI ((sumTo (fun j => worth (M (a + 1) j) (M (a + 2) j)) k - sumTo (fun j => worth (M (a + 1) j) (M (a + 2) j)) f) + (worth (M (a + 1) k) (M (a + 2) k)))), (4, vI ((k : Nat) : Int)), (0, vR a), (1, vI ((f : Nat) : Int)), (2, vI ((g : Nat) : Int))]) dX6_worthBetween_19 rfl (by decide) rfl ?_
      refine gx_iinc (v := ((k + 1 : Nat) : Int)) (lv' := [(4, vI ((k + 1 : Nat) : Int)), (3, vI ((sumTo (fun j => worth (M (a + 1) j) (M (a + 2) j)) k - sumTo (fun j => worth (M (a + 1) j) (M (a + 2) j)) f) + (worth (M (a + 1) k) (M (a + 2) k)))), (0, vR a), (1, vI ((f : Nat) : Int)), (2, vI ((g : Nat) : Int))]) 1 dX6_worthBetween_20 rfl (by omega) ⟨by omega, by omega⟩ (by decide) rfl ?_
      refine go_goto (tgt := 5) dX6_worthBetween_23 rfl ?_
      have e3 : ((sumTo (fun j => worth (M (a + 1) j) (M (a + 2) j)) k - sumTo (fun j => worth (M (a + 1) j) (M (a + 2) j)) f) + (worth (M (a + 1) k) (M (a + 2) k))) = (sumTo (fun j => worth (M (a + 1) j) (M (a + 2) j)) (k + 1) - sumTo (fun j => worth (M (a + 1) j) (M (a + 2) j)) f) := by simp only [sumTo]; omega
      rw [e3]
      exact ih (k + 1) (by omega) (by omega) (by omega)

set_option maxHeartbeats 4000000 in
set_option maxRecDepth 100000 in
theorem ok_X6_worthBetween {a w L : Nat} {M : inm} {f g : Nat} {Q : Int → Nat → rfm → inm → Prop} (ha : On a) (hL : Lay M a L) (hf : f ≤ g) (hg : g ≤ L) (hQ : Q (sumTo (fun j => worth (M (a + 1) j) (M (a + 2) j)) g - sumTo (fun j => worth (M (a + 1) j) (M (a + 2) j)) f) 303 (PP w) M) : OkI yX6_worthBetween cX6_worthBetween 5 2 0 0 (some .int) [vR a, vI ((f : Nat) : Int), vI ((g : Nat) : Int)] 303 (PP w) M Q := by
  refine OkI.of (by decide +kernel) (by decide +kernel) (Nat.le_of_ble_eq_true rfl) ?_
  refine go_eq (lv' := [(0, vR a), (1, vI ((f : Nat) : Int)), (2, vI ((g : Nat) : Int))]) rfl rfl rfl rfl rfl ?_
  have hL12 := hL.2.1
  refine go_iconst dX6_worthBetween_0 (by decide) ?_
  refine go_istore_n (lv' := [(3, vI 0), (0, vR a), (1, vI ((f : Nat) : Int)), (2, vI ((g : Nat) : Int))]) dX6_worthBetween_1 rfl (by decide) rfl ?_
  refine go_iload_n 2 dX6_worthBetween_2 rfl rfl ?_
  refine go_istore (lv' := [(4, vI ((f : Nat) : Int)), (3, vI 0), (0, vR a), (1, vI ((f : Nat) : Int)), (2, vI ((g : Nat) : Int))]) dX6_worthBetween_3 (by decide) rfl ?_
  rw [show (0 : Int) = sumTo (fun j => worth (M (a + 1) j) (M (a + 2) j)) f - sumTo (fun j => worth (M (a + 1) j) (M (a + 2) j)) f by omega]
  exact lp_X6_worthBetween ha hL hg hQ (g + 1) f (by omega) (by omega) (by omega)

set_option maxHeartbeats 4000000 in
set_option maxRecDepth 100000 in
theorem lp_X6_cut {a w L : Nat} {M : inm} {Q : Int → Nat → rfm → inm → Prop} (ha : On a) (hL : Lay M a L) : ∀ (d k : Nat), L < k + d → k ≤ L → Q (fst1 (fun j => decide (sumTo (fun j => M (a + 2) j) L / 2 < sumTo (fun j => M (a + 2) j) (j + 1))) (L - k) k) 303 (PP w) M → Go S0 yX6_cut cX6_cut 4 1 0 0 (some .int) 11 [(3, vI ((k : Nat) : Int)), (2, vI (sumTo (fun j => M (a + 2) j) k)), (0, vR a), (1, vI (sumTo (fun j => M (a + 2) j) L / 2))] [] 303 (PP w) M (fun v n P M => ∃ z, v = some (vI z) ∧ Q z n P M) := by
  have hL12 := hL.2.1
  intro d
  induction d with
  | zero => intro k h1 h2 hQ; exfalso; omega
  | succ d ih =>
    intro k h1 h2 hQ
    have hs := sumTo_in (f := (fun j => M (a + 2) j)) (b := 20) k (fun j hj => hL.2.2.1 j (by omega))
    have hs2 := sumTo_in (f := (fun j => M (a + 2) j)) (b := 20) L (fun j hj => hL.2.2.1 j (by omega))
    refine go_iload_n 0 dX6_cut_11 rfl rfl ?_
    refine go_aload_n 2 dX6_cut_12 rfl rfl ?_
    refine gx_getI (v := ((L : Nat) : Int)) dX6_cut_13 lk6_9.get ha.k0 ha.l0 rfl hL.1 ?_
    refine go_icmp_ge (tgt := 41) dX6_cut_16 rfl (fun c1 => ?_) (fun c1 => ?_)
    · refine go_iconst dX6_cut_41 (by decide) ?_
      refine go_iret dX6_cut_42 rfl rfl ⟨_, rfl, ?_⟩
      rw [show L - k = 0 by omega, fst1] at hQ
      exact hQ
    · refine go_iload_n 1 dX6_cut_19 rfl rfl ?_
      refine go_aload_n 2 dX6_cut_20 rfl rfl ?_
      refine go_getR (r := (a + 2)) dX6_cut_21 lk6_19.get ha.k0 ha.l0 rfl (ha.p2 _) ?_
      refine go_iload_n 0 dX6_cut_24 rfl rfl ?_
      have f2 := hL.2.2.1 k (by omega)
      refine gx_iaload (v := (M (a + 2) k)) k dX6_cut_25 ha.k2 ha.l2 ha.n2 rfl (by omega) rfl ?_
      refine gx_iadd (v := ((sumTo (fun j => M (a + 2) j) k) + (M (a + 2) k))) dX6_cut_26 rfl ⟨by omega, by omega⟩ ?_
      refine go_istore_n (lv' := [(2, vI ((sumTo (fun j => M (a + 2) j) k) + (M (a + 2) k))), (3, vI ((k : Nat) : Int)), (0, vR a), (1, vI (sumTo (fun j => M (a + 2) j) L / 2))]) dX6_cut_27 rfl (by decide) rfl ?_
      refine go_iload_n 0 dX6_cut_28 rfl rfl ?_
      refine go_iload_n 3 dX6_cut_29 rfl rfl ?_
      refine go_icmp_le (tgt := 35) dX6_cut_30 rfl (fun c3 => ?_) (fun c3 => ?_)
      · refine gx_iinc (v := ((k + 1 : Nat) : Int)) (lv' := [(3, vI ((k + 1 : Nat) : Int)), (2, vI ((sumTo (fun j => M (a + 2) j) k) + (M (a + 2) k))), (0, vR a), (1, vI (sumTo (fun j => M (a + 2) j) L / 2))]) 1 dX6_cut_35 rfl (by omega) ⟨by omega, by omega⟩ (by decide) rfl ?_
        refine go_goto (tgt := 11) dX6_cut_38 rfl ?_
        have e4 : ((sumTo (fun j => M (a + 2) j) k) + (M (a + 2) k)) = (sumTo (fun j => M (a + 2) j) (k + 1)) := by rfl
        rw [e4]
        have hd : sumTo (fun j => M (a + 2) j) (k + 1) = sumTo (fun j => M (a + 2) j) k + M (a + 2) k := rfl
        rw [fst1_go (by omega) (decide_eq_false (by omega))] at hQ
        exact ih (k + 1) (by omega) (by omega) hQ
      · refine go_iload_n 1 dX6_cut_33 rfl rfl ?_
        refine go_iret dX6_cut_34 rfl rfl ⟨_, rfl, ?_⟩
        have hd : sumTo (fun j => M (a + 2) j) (k + 1) = sumTo (fun j => M (a + 2) j) k + M (a + 2) k := rfl
        rw [fst1_hit (by omega) (decide_eq_true (by omega))] at hQ
        exact hQ

set_option maxHeartbeats 4000000 in
set_option maxRecDepth 100000 in
theorem ok_X6_cut {a w L : Nat} {M : inm} {Q : Int → Nat → rfm → inm → Prop} (ha : On a) (hL : Lay M a L) (hQ : Q (cutV (fun j => M (a + 2) j) L) 303 (PP w) M) : OkI yX6_cut cX6_cut 4 1 0 0 (some .int) [vR a] 303 (PP w) M Q := by
  refine OkI.of (by decide +kernel) (by decide +kernel) (Nat.le_of_ble_eq_true rfl) ?_
  refine go_eq (lv' := [(0, vR a)]) rfl rfl rfl rfl rfl ?_
  have hL12 := hL.2.1
  refine go_aload_n 0 dX6_cut_0 rfl rfl ?_
  refine go_callVI (av := []) (st := []) (a := a) (mc2 := 0) (ms2 := 0) dX6_cut_1 cw6_94 (by decide) rfl rfl (Nat.le_of_ble_eq_true rfl) rfl rfl ha.k0 ⟨_, _, rfl⟩ (by decide) ha.l0 (ok_X6_allThick ha hL ?_)
  have hA := sumTo_in (f := (fun j => M (a + 2) j)) (b := 20) L (fun j hj => hL.2.2.1 j (by omega))
  refine go_iconst dX6_cut_4 (by decide) ?_
  refine gx_idiv (v := ((sumTo (fun j => M (a + 2) j) L) / 2)) dX6_cut_5 rfl (by omega) (by omega) ?_
  refine go_istore_n (lv' := [(1, vI ((sumTo (fun j => M (a + 2) j) L) / 2)), (0, vR a)]) dX6_cut_6 rfl (by decide) rfl ?_
  refine go_iconst dX6_cut_7 (by decide) ?_
  refine go_istore_n (lv' := [(2, vI 0), (1, vI ((sumTo (fun j => M (a + 2) j) L) / 2)), (0, vR a)]) dX6_cut_8 rfl (by decide) rfl ?_
  refine go_iconst dX6_cut_9 (by decide) ?_
  refine go_istore_n (lv' := [(3, vI 0), (2, vI 0), (1, vI ((sumTo (fun j => M (a + 2) j) L) / 2)), (0, vR a)]) dX6_cut_10 rfl (by decide) rfl ?_
  refine go_lv [0, 1, 3, 2] rfl ?_
  exact lp_X6_cut ha hL (L + 1) 0 (by omega) (by omega) hQ

set_option maxHeartbeats 4000000 in
set_option maxRecDepth 100000 in
theorem ok_X9_pairBit {w : Nat} {x z : Int} {M : inm} {Q : Int → Nat → rfm → inm → Prop} (hx : 0 ≤ x ∧ x ≤ 4) (hz : 0 ≤ z ∧ z ≤ 4) (hQ : Q ((2 ^ (5 * x + z).toNat : Nat) : Int) 303 (PP w) M) : OkI yX9_pairBit cX9_pairBit 2 0 0 0 (some .int) [vI x, vI z] 303 (PP w) M Q := by
  refine OkI.of (by decide +kernel) (by decide +kernel) (Nat.le_of_ble_eq_true rfl) ?_
  refine go_eq (lv' := [(0, vI x), (1, vI z)]) rfl rfl rfl rfl rfl ?_
  refine go_iconst dX9_pairBit_0 (by decide) ?_
  refine go_iconst dX9_pairBit_1 (by decide) ?_
  refine go_iload_n 0 dX9_pairBit_2 rfl rfl ?_
  refine gx_imul (v := (5 * x)) dX9_pairBit_3 rfl ⟨by omega, by omega⟩ ?_
  refine go_iload_n 1 dX9_pairBit_4 rfl rfl ?_
  refine gx_iadd (v := ((5 * x) + z)) dX9_pairBit_5 rfl ⟨by omega, by omega⟩ ?_
  refine gx_shl ((((5 * x) + z)).toNat) dX9_pairBit_6 (by omega) (by omega) rfl ?_
  refine go_iret dX9_pairBit_7 rfl rfl ⟨_, rfl, ?_⟩
  exact hQ

set_option maxHeartbeats 4000000 in
set_option maxRecDepth 100000 in
theorem lp_X6_law {a w L : Nat} {M : inm} {Q : Int → Nat → rfm → inm → Prop} (ha : On a) (hL : Lay M a L) (hQ : Q ((orTo (lawG (fun j => M (a + 1) j)) (max L 1) : Nat) : Int) 303 (PP w) M) : ∀ (d k : Nat), (max L 1) < k + d → 1 ≤ k → k ≤ (max L 1) → Go S0 yX6_law cX6_law 3 1 0 0 (some .int) 4 [(2, vI ((k : Nat) : Int)), (1, vI ((orTo (lawG (fun j => M (a + 1) j)) k : Nat) : Int)), (0, vR a)] [] 303 (PP w) M (fun v n P M => ∃ z, v = some (vI z) ∧ Q z n P M) := by
  have hL12 := hL.2.1
  intro d
  induction d with
  | zero => intro k h1 h2 h3; exfalso; omega
  | succ d ih =>
    intro k h1 h2 h3
    have f0 := fun h : k < L => hL.2.2.2 (k - 1) (by omega)
    refine go_iload_n 0 dX6_law_4 rfl rfl ?_
    refine go_aload_n 2 dX6_law_5 rfl rfl ?_
    refine gx_getI (v := ((L : Nat) : Int)) dX6_law_6 lk6_9.get ha.k0 ha.l0 rfl hL.1 ?_
    refine go_icmp_ge (tgt := 38) dX6_law_9 rfl (fun c1 => ?_) (fun c1 => ?_)
    · refine go_iload_n 1 dX6_law_38 rfl rfl ?_
      refine go_iret dX6_law_39 rfl rfl ⟨_, rfl, ?_⟩
      rw [show max L 1 = k by omega] at hQ
      exact hQ
    · refine go_iload_n 1 dX6_law_12 rfl rfl ?_
      refine go_aload_n 2 dX6_law_13 rfl rfl ?_
      refine go_getR (r := (a + 1)) dX6_law_14 lk6_15.get ha.k0 ha.l0 rfl (ha.p1 _) ?_
      refine go_iload_n 0 dX6_law_17 rfl rfl ?_
      refine go_iconst dX6_law_18 (by decide) ?_
      refine gx_isub (v := ((k - 1 : Nat) : Int)) dX6_law_19 (by omega) ⟨by omega, by omega⟩ ?_
      have f2 := hL.2.2.2 (k - 1) (by omega)
      refine gx_iaload (v := (M (a + 1) (k - 1))) (k - 1) dX6_law_20 ha.k1 ha.l1 ha.n1 rfl (by omega) rfl ?_
      refine go_aload_n 2 dX6_law_21 rfl rfl ?_
      refine go_getR (r := (a + 1)) dX6_law_22 lk6_15.get ha.k0 ha.l0 rfl (ha.p1 _) ?_
      refine go_iload_n 0 dX6_law_25 rfl rfl ?_
      have f3 := hL.2.2.2 k (by omega)
      refine gx_iaload (v := (M (a + 1) k)) k dX6_law_26 ha.k1 ha.l1 ha.n1 rfl (by omega) rfl ?_
      refine go_callSI (av := [vI (M (a + 1) (k - 1)), vI (M (a + 1) k)]) (st := [vI ((orTo (lawG (fun j => M (a + 1) j)) k : Nat) : Int)]) (mc2 := 0) (ms2 := 0) dX6_law_27 cw6_98 (by decide) rfl rfl (Nat.le_of_ble_eq_true rfl) rfl rfl (ok_X9_pairBit (by omega) (by omega) ?_)
      refine gx_ior (a := orTo (lawG (fun j => M (a + 1) j)) k) (b := (2 ^ (5 * (M (a + 1) (k - 1)) + (M (a + 1) k)).toNat)) dX6_law_30 (by omega) (by omega) ?_
      refine go_istore_n (lv' := [(1, vI (((orTo (lawG (fun j => M (a + 1) j)) k) ||| (2 ^ (5 * (M (a + 1) (k - 1)) + (M (a + 1) k)).toNat) : Nat) : Int)), (2, vI ((k : Nat) : Int)), (0, vR a)]) dX6_law_31 rfl (by decide) rfl ?_
      refine gx_iinc (v := ((k + 1 : Nat) : Int)) (lv' := [(2, vI ((k + 1 : Nat) : Int)), (1, vI (((orTo (lawG (fun j => M (a + 1) j)) k) ||| (2 ^ (5 * (M (a + 1) (k - 1)) + (M (a + 1) k)).toNat) : Nat) : Int)), (0, vR a)]) 1 dX6_law_32 rfl (by omega) ⟨by omega, by omega⟩ (by decide) rfl ?_
      refine go_goto (tgt := 4) dX6_law_35 rfl ?_
      have e4 : (((orTo (lawG (fun j => M (a + 1) j)) k) ||| (2 ^ (5 * (M (a + 1) (k - 1)) + (M (a + 1) k)).toNat) : Nat) : Int) = ((orTo (lawG (fun j => M (a + 1) j)) (k + 1) : Nat) : Int) := by simp only [orTo]; rw [lawG, if_neg (by omega)]
      rw [e4]
      exact ih (k + 1) (by omega) (by omega) (by omega)

set_option maxHeartbeats 4000000 in
set_option maxRecDepth 100000 in
theorem ok_X6_law {a w L : Nat} {M : inm} {Q : Int → Nat → rfm → inm → Prop} (ha : On a) (hL : Lay M a L) (hQ : Q ((orTo (lawG (fun j => M (a + 1) j)) (max L 1) : Nat) : Int) 303 (PP w) M) : OkI yX6_law cX6_law 3 1 0 0 (some .int) [vR a] 303 (PP w) M Q := by
  refine OkI.of (by decide +kernel) (by decide +kernel) (Nat.le_of_ble_eq_true rfl) ?_
  refine go_eq (lv' := [(0, vR a)]) rfl rfl rfl rfl rfl ?_
  have hL12 := hL.2.1
  refine go_iconst dX6_law_0 (by decide) ?_
  refine go_istore_n (lv' := [(1, vI 0), (0, vR a)]) dX6_law_1 rfl (by decide) rfl ?_
  refine go_iconst dX6_law_2 (by decide) ?_
  refine go_istore_n (lv' := [(2, vI 1), (1, vI 0), (0, vR a)]) dX6_law_3 rfl (by decide) rfl ?_
  refine go_eq (lv' := [(2, vI 1), (1, vI ((orTo (lawG (fun j => M (a + 1) j)) 1 : Nat) : Int)), (0, vR a)]) (by simp [orTo, lawG]) rfl rfl rfl rfl ?_
  exact lp_X6_law ha hL hQ (max L 1 + 1) 1 (by omega) (by omega) (by omega)

set_option maxHeartbeats 4000000 in
set_option maxRecDepth 100000 in
theorem lp_X6_layersUnder {a w L : Nat} {M : inm} {u l : Nat} {Q : Int → Nat → rfm → inm → Prop} (ha : On a) (hL : Lay M a L) (hu : u ≤ 4) (hQ : Q ((orTo (underG u l (fun j => M (a + 1) j)) L : Nat) : Int) 303 (PP w) M) : ∀ (d k : Nat), L < k + d → k ≤ L → Go S0 yX6_layersUnder cX6_layersUnder 5 1 0 0 (some .int) 5 [(4, vI ((k : Nat) : Int)), (3, vI ((orTo (underG u l (fun j => M (a + 1) j)) k : Nat) : Int)), (0, vR a), (1, vI ((u : Nat) : Int)), (2, vI ((l : Nat) : Int))] [] 303 (PP w) M (fun v n P M => ∃ z, v = some (vI z) ∧ Q z n P M) := by
  have hL12 := hL.2.1
  intro d
  induction d with
  | zero => intro k h1 h2; exfalso; omega
  | succ d ih =>
    intro k h1 h2
    refine go_iload 0 dX6_layersUnder_5 rfl ?_
    refine go_aload_n 2 dX6_layersUnder_7 rfl rfl ?_
    refine gx_getI (v := ((L : Nat) : Int)) dX6_layersUnder_8 lk6_9.get ha.k0 ha.l0 rfl hL.1 ?_
    refine go_icmp_ge (tgt := 43) dX6_layersUnder_11 rfl (fun c1 => ?_) (fun c1 => ?_)
    · refine go_iload_n 1 dX6_layersUnder_43 rfl rfl ?_
      refine go_iret dX6_layersUnder_44 rfl rfl ⟨_, rfl, ?_⟩
      rw [show k = L by omega]
      exact hQ
    · refine go_iload_n 4 dX6_layersUnder_14 rfl rfl ?_
      refine go_iload_n 3 dX6_layersUnder_15 rfl rfl ?_
      refine go_aload_n 2 dX6_layersUnder_16 rfl rfl ?_
      refine go_getR (r := (a + 1)) dX6_layersUnder_17 lk6_15.get ha.k0 ha.l0 rfl (ha.p1 _) ?_
      refine go_iload 0 dX6_layersUnder_20 rfl ?_
      have f2 := hL.2.2.2 k (by omega)
      refine gx_iaload (v := (M (a + 1) k)) k dX6_layersUnder_22 ha.k1 ha.l1 ha.n1 rfl (by omega) rfl ?_
      refine go_callSI (av := [vI ((u : Nat) : Int), vI (M (a + 1) k)]) (st := [vI ((l : Nat) : Int)]) (mc2 := 0) (ms2 := 0) dX6_layersUnder_23 cw6_98 (by decide) rfl rfl (Nat.le_of_ble_eq_true rfl) rfl rfl (ok_X9_pairBit (by omega) (by omega) ?_)
      refine gx_iand (a := l) (b := (2 ^ (5 * ((u : Nat) : Int) + (M (a + 1) k)).toNat)) dX6_layersUnder_26 (by omega) (by omega) ?_
      refine go_if_eq (tgt := 37) dX6_layersUnder_27 rfl (fun c3 => ?_) (fun c3 => ?_)
      · refine gx_iinc (v := ((k + 1 : Nat) : Int)) (lv' := [(4, vI ((k + 1 : Nat) : Int)), (3, vI ((orTo (underG u l (fun j => M (a + 1) j)) k : Nat) : Int)), (0, vR a), (1, vI ((u : Nat) : Int)), (2, vI ((l : Nat) : Int))]) 0 dX6_layersUnder_37 rfl (by omega) ⟨by omega, by omega⟩ (by decide) rfl ?_
        refine go_goto (tgt := 5) dX6_layersUnder_40 rfl ?_
        have e4 : ((orTo (underG u l (fun j => M (a + 1) j)) k : Nat) : Int) = ((orTo (underG u l (fun j => M (a + 1) j)) (k + 1) : Nat) : Int) := by (simp only [orTo, underG]; first | (rw [if_pos (by omega)]; simp) | rw [if_neg (by omega)])
        rw [e4]
        exact ih (k + 1) (by omega) (by omega)
      · refine go_iload_n 1 dX6_layersUnder_30 rfl rfl ?_
        refine go_iconst dX6_layersUnder_31 (by decide) ?_
        refine go_iload 0 dX6_layersUnder_32 rfl ?_
        refine gx_shl k dX6_layersUnder_34 (by omega) (by omega) rfl ?_
        refine gx_ior (a := orTo (underG u l (fun j => M (a + 1) j)) k) (b := (2 ^ k)) dX6_layersUnder_35 (by omega) (by omega) ?_
        refine go_istore_n (lv' := [(3, vI (((orTo (underG u l (fun j => M (a + 1) j)) k) ||| (2 ^ k) : Nat) : Int)), (4, vI ((k : Nat) : Int)), (0, vR a), (1, vI ((u : Nat) : Int)), (2, vI ((l : Nat) : Int))]) dX6_layersUnder_36 rfl (by decide) rfl ?_
        refine gx_iinc (v := ((k + 1 : Nat) : Int)) (lv' := [(4, vI ((k + 1 : Nat) : Int)), (3, vI (((orTo (underG u l (fun j => M (a + 1) j)) k) ||| (2 ^ k) : Nat) : Int)), (0, vR a), (1, vI ((u : Nat) : Int)), (2, vI ((l : Nat) : Int))]) 1 dX6_layersUnder_37 rfl (by omega) ⟨by omega, by omega⟩ (by decide) rfl ?_
        refine go_goto (tgt := 5) dX6_layersUnder_40 rfl ?_
        have e5 : (((orTo (underG u l (fun j => M (a + 1) j)) k) ||| (2 ^ k) : Nat) : Int) = ((orTo (underG u l (fun j => M (a + 1) j)) (k + 1) : Nat) : Int) := by (simp only [orTo, underG]; first | (rw [if_pos (by omega)]; simp) | rw [if_neg (by omega)])
        rw [e5]
        exact ih (k + 1) (by omega) (by omega)

set_option maxHeartbeats 4000000 in
set_option maxRecDepth 100000 in
theorem ok_X6_layersUnder {a w L : Nat} {M : inm} {u l : Nat} {Q : Int → Nat → rfm → inm → Prop} (ha : On a) (hL : Lay M a L) (hu : u ≤ 4) (hQ : Q ((orTo (underG u l (fun j => M (a + 1) j)) L : Nat) : Int) 303 (PP w) M) : OkI yX6_layersUnder cX6_layersUnder 5 1 0 0 (some .int) [vR a, vI ((u : Nat) : Int), vI ((l : Nat) : Int)] 303 (PP w) M Q := by
  refine OkI.of (by decide +kernel) (by decide +kernel) (Nat.le_of_ble_eq_true rfl) ?_
  refine go_eq (lv' := [(0, vR a), (1, vI ((u : Nat) : Int)), (2, vI ((l : Nat) : Int))]) rfl rfl rfl rfl rfl ?_
  have hL12 := hL.2.1
  refine go_iconst dX6_layersUnder_0 (by decide) ?_
  refine go_istore_n (lv' := [(3, vI 0), (0, vR a), (1, vI ((u : Nat) : Int)), (2, vI ((l : Nat) : Int))]) dX6_layersUnder_1 rfl (by decide) rfl ?_
  refine go_iconst dX6_layersUnder_2 (by decide) ?_
  refine go_istore (lv' := [(4, vI 0), (3, vI 0), (0, vR a), (1, vI ((u : Nat) : Int)), (2, vI ((l : Nat) : Int))]) dX6_layersUnder_3 (by decide) rfl ?_
  exact lp_X6_layersUnder ha hL hu hQ (L + 1) 0 (by omega) (by omega)

set_option maxHeartbeats 4000000 in
set_option maxRecDepth 100000 in
theorem lp_X6_rowFrom {a w L : Nat} {M : inm} {r : Nat} {Q : Int → Nat → rfm → inm → Prop} (ha : On a) (hL : Lay M a L) (hr : r < L) : ∀ (d k : Nat), L < k + d → (r + 1) ≤ k → k ≤ L → Q ((rowL (fun j => M (a + 1) j) r (L - k) k : Nat) : Int) 303 (PP w) M → Go S0 yX6_rowFrom cX6_rowFrom 3 1 0 0 (some .int) 14 [(2, vI ((k : Nat) : Int)), (0, vR a), (1, vI ((r : Nat) : Int))] [] 303 (PP w) M (fun v n P M => ∃ z, v = some (vI z) ∧ Q z n P M) := by
  have hL12 := hL.2.1
  intro d
  induction d with
  | zero => intro k h1 h2 h3 hQ; exfalso; omega
  | succ d ih =>
    intro k h1 h2 h3 hQ
    refine go_iload_n 0 dX6_rowFrom_14 rfl rfl ?_
    refine go_aload_n 1 dX6_rowFrom_15 rfl rfl ?_
    refine gx_getI (v := ((L : Nat) : Int)) dX6_rowFrom_16 lk6_9.get ha.k0 ha.l0 rfl hL.1 ?_
    refine go_icmp_ge (tgt := 43) dX6_rowFrom_19 rfl (fun c1 => ?_) (fun c1 => ?_)
    · refine go_iload_n 0 dX6_rowFrom_43 rfl rfl ?_
      refine go_iload_n 2 dX6_rowFrom_44 rfl rfl ?_
      refine gx_isub (v := (((k : Nat) : Int) - ((r : Nat) : Int))) dX6_rowFrom_45 rfl ⟨by omega, by omega⟩ ?_
      refine go_iret dX6_rowFrom_46 rfl rfl ⟨_, rfl, ?_⟩
      first | (rw [show L - k = 0 by omega, rowL, Int.natCast_sub (by omega)] at hQ; exact hQ) | (rw [show L - k = (L - (k + 1)) + 1 by omega, rowL, if_neg (by omega), Int.natCast_sub (by omega)] at hQ; exact hQ)
    · refine go_aload_n 1 dX6_rowFrom_22 rfl rfl ?_
      refine go_getR (r := (a + 1)) dX6_rowFrom_23 lk6_15.get ha.k0 ha.l0 rfl (ha.p1 _) ?_
      refine go_iload_n 0 dX6_rowFrom_26 rfl rfl ?_
      have f2 := hL.2.2.2 k (by omega)
      refine gx_iaload (v := (M (a + 1) k)) k dX6_rowFrom_27 ha.k1 ha.l1 ha.n1 rfl (by omega) rfl ?_
      refine go_aload_n 1 dX6_rowFrom_28 rfl rfl ?_
      refine go_getR (r := (a + 1)) dX6_rowFrom_29 lk6_15.get ha.k0 ha.l0 rfl (ha.p1 _) ?_
      refine go_iload_n 2 dX6_rowFrom_32 rfl rfl ?_
      have f3 := hL.2.2.2 r (by omega)
      refine gx_iaload (v := (M (a + 1) r)) r dX6_rowFrom_33 ha.k1 ha.l1 ha.n1 rfl (by omega) rfl ?_
      refine go_icmp_ne (tgt := 43) dX6_rowFrom_34 rfl (fun c4 => ?_) (fun c4 => ?_)
      · refine go_iload_n 0 dX6_rowFrom_43 rfl rfl ?_
        refine go_iload_n 2 dX6_rowFrom_44 rfl rfl ?_
        refine gx_isub (v := (((k : Nat) : Int) - ((r : Nat) : Int))) dX6_rowFrom_45 rfl ⟨by omega, by omega⟩ ?_
        refine go_iret dX6_rowFrom_46 rfl rfl ⟨_, rfl, ?_⟩
        first | (rw [show L - k = 0 by omega, rowL, Int.natCast_sub (by omega)] at hQ; exact hQ) | (rw [show L - k = (L - (k + 1)) + 1 by omega, rowL, if_neg (by omega), Int.natCast_sub (by omega)] at hQ; exact hQ)
      · refine gx_iinc (v := ((k + 1 : Nat) : Int)) (lv' := [(2, vI ((k + 1 : Nat) : Int)), (0, vR a), (1, vI ((r : Nat) : Int))]) 0 dX6_rowFrom_37 rfl (by omega) ⟨by omega, by omega⟩ (by decide) rfl ?_
        refine go_goto (tgt := 14) dX6_rowFrom_40 rfl ?_
        rw [show L - k = (L - (k + 1)) + 1 by omega, rowL, if_pos (by omega)] at hQ
        exact ih (k + 1) (by omega) (by omega) (by omega) hQ

set_option maxHeartbeats 4000000 in
set_option maxRecDepth 100000 in
theorem ok_X6_rowFrom {a w L : Nat} {M : inm} {r : Nat} {Q : Int → Nat → rfm → inm → Prop} (ha : On a) (hL : Lay M a L) (hr : r < L) (hQ : Q ((rowL (fun j => M (a + 1) j) r (L - (r + 1)) (r + 1) : Nat) : Int) 303 (PP w) M) : OkI yX6_rowFrom cX6_rowFrom 3 1 0 0 (some .int) [vR a, vI ((r : Nat) : Int)] 303 (PP w) M Q := by
  refine OkI.of (by decide +kernel) (by decide +kernel) (Nat.le_of_ble_eq_true rfl) ?_
  refine go_eq (lv' := [(0, vR a), (1, vI ((r : Nat) : Int))]) rfl rfl rfl rfl rfl ?_
  have hL12 := hL.2.1
  refine go_aload_n 0 dX6_rowFrom_0 rfl rfl ?_
  refine go_iload_n 1 dX6_rowFrom_1 rfl rfl ?_
  refine go_callVI (av := [vI ((r : Nat) : Int)]) (st := []) (a := a) (mc2 := 0) (ms2 := 0) dX6_rowFrom_2 cw6_64 (by decide) rfl rfl (Nat.le_of_ble_eq_true rfl) rfl rfl ha.k0 ⟨_, _, rfl⟩ (by decide) ha.l0 (ok_X6_hasLayer ha (fun _ _ => ?_) (fun h => absurd ⟨by omega, by rw [hL.1]; omega⟩ h))
  refine go_if_ne (tgt := 10) dX6_rowFrom_5 rfl (fun c1 => ?_) (fun c1 => ?_)
  · refine go_iload_n 1 dX6_rowFrom_10 rfl rfl ?_
    refine go_iconst dX6_rowFrom_11 (by decide) ?_
    refine gx_iadd (v := ((r + 1 : Nat) : Int)) dX6_rowFrom_12 (by omega) ⟨by omega, by omega⟩ ?_
    refine go_istore_n (lv' := [(2, vI ((r + 1 : Nat) : Int)), (0, vR a), (1, vI ((r : Nat) : Int))]) dX6_rowFrom_13 rfl (by decide) rfl ?_
    exact lp_X6_rowFrom ha hL hr (L + 1) (r + 1) (by omega) (by omega) (by omega) hQ
  · exact absurd c1 (by omega)

set_option maxHeartbeats 4000000 in
set_option maxRecDepth 100000 in
theorem lp_X6_startOfLongestRow {a w L : Nat} {M : inm} {Q : Int → Nat → rfm → inm → Prop} (ha : On a) (hL : Lay M a L) (hQ : Q (fo (longG (fun j => M (a + 1) j) L) L (-1, 0)).1 303 (PP w) M) : ∀ (d k : Nat), L < k + d → k ≤ L → Go S0 yX6_startOfLongestRow cX6_startOfLongestRow 5 2 0 0 (some .int) 6 [(3, vI ((k : Nat) : Int)), (1, vI ((fo (longG (fun j => M (a + 1) j) L) k (-1, 0)).1)), (2, vI ((fo (longG (fun j => M (a + 1) j) L) k (-1, 0)).2)), (0, vR a)] [] 303 (PP w) M (fun v n P M => ∃ z, v = some (vI z) ∧ Q z n P M) := by
  have hL12 := hL.2.1
  intro d
  induction d with
  | zero => intro k h1 h2; exfalso; omega
  | succ d ih =>
    intro k h1 h2
    refine go_iload_n 0 dX6_startOfLongestRow_6 rfl rfl ?_
    refine go_aload_n 3 dX6_startOfLongestRow_7 rfl rfl ?_
    refine gx_getI (v := ((L : Nat) : Int)) dX6_startOfLongestRow_8 lk6_9.get ha.k0 ha.l0 rfl hL.1 ?_
    refine go_icmp_ge (tgt := 38) dX6_startOfLongestRow_11 rfl (fun c1 => ?_) (fun c1 => ?_)
    · refine go_iload_n 1 dX6_startOfLongestRow_38 rfl rfl ?_
      refine go_iret dX6_startOfLongestRow_39 rfl rfl ⟨_, rfl, ?_⟩
      rw [show k = L by omega]
      exact hQ
    · refine go_aload_n 3 dX6_startOfLongestRow_14 rfl rfl ?_
      refine go_iload_n 0 dX6_startOfLongestRow_15 rfl rfl ?_
      refine go_callVI (av := [vI ((k : Nat) : Int)]) (st := []) (a := a) (mc2 := 0) (ms2 := 0) dX6_startOfLongestRow_16 cw6_101 (by decide) rfl rfl (Nat.le_of_ble_eq_true rfl) rfl rfl ha.k0 ⟨_, _, rfl⟩ (by decide) ha.l0 (ok_X6_rowFrom (r := k) ha hL (by omega) ?_)
      refine go_istore (lv' := [(4, vI ((rowL (fun j => M (a + 1) j) k (L - (k + 1)) (k + 1) : Nat) : Int)), (3, vI ((k : Nat) : Int)), (1, vI ((fo (longG (fun j => M (a + 1) j) L) k (-1, 0)).1)), (2, vI ((fo (longG (fun j => M (a + 1) j) L) k (-1, 0)).2)), (0, vR a)]) dX6_startOfLongestRow_19 (by decide) rfl ?_
      refine go_iload 0 dX6_startOfLongestRow_21 rfl ?_
      refine go_iload_n 3 dX6_startOfLongestRow_23 rfl rfl ?_
      refine go_icmp_le (tgt := 32) dX6_startOfLongestRow_24 rfl (fun c2 => ?_) (fun c2 => ?_)
      · refine gx_iinc (v := ((k + 1 : Nat) : Int)) (lv' := [(3, vI ((k + 1 : Nat) : Int)), (4, vI ((rowL (fun j => M (a + 1) j) k (L - (k + 1)) (k + 1) : Nat) : Int)), (1, vI ((fo (longG (fun j => M (a + 1) j) L) k (-1, 0)).1)), (2, vI ((fo (longG (fun j => M (a + 1) j) L) k (-1, 0)).2)), (0, vR a)]) 1 dX6_startOfLongestRow_32 rfl (by omega) ⟨by omega, by omega⟩ (by decide) rfl ?_
        refine go_goto (tgt := 6) dX6_startOfLongestRow_35 rfl ?_
        refine go_lv [0, 2, 3, 4] rfl ?_
        have e3 : (fo (longG (fun j => M (a + 1) j) L) k (-1, 0)).1 = (fo (longG (fun j => M (a + 1) j) L) (k + 1) (-1, 0)).1 := by (rw [fo, longG]; first | (rw [if_pos (by omega)]; done) | (rw [if_neg (by omega)]; done) | (rw [if_pos (by omega)]; rfl) | (rw [if_neg (by omega)]; rfl))
        rw [e3]
        have e4 : (fo (longG (fun j => M (a + 1) j) L) k (-1, 0)).2 = (fo (longG (fun j => M (a + 1) j) L) (k + 1) (-1, 0)).2 := by (rw [fo, longG]; first | (rw [if_pos (by omega)]; done) | (rw [if_neg (by omega)]; done) | (rw [if_pos (by omega)]; rfl) | (rw [if_neg (by omega)]; rfl))
        rw [e4]
        exact ih (k + 1) (by omega) (by omega)
      · refine go_iload 0 dX6_startOfLongestRow_27 rfl ?_
        refine go_istore_n (lv' := [(2, vI ((rowL (fun j => M (a + 1) j) k (L - (k + 1)) (k + 1) : Nat) : Int)), (4, vI ((rowL (fun j => M (a + 1) j) k (L - (k + 1)) (k + 1) : Nat) : Int)), (3, vI ((k : Nat) : Int)), (1, vI ((fo (longG (fun j => M (a + 1) j) L) k (-1, 0)).1)), (0, vR a)]) dX6_startOfLongestRow_29 rfl (by decide) rfl ?_
        refine go_iload_n 2 dX6_startOfLongestRow_30 rfl rfl ?_
        refine go_istore_n (lv' := [(1, vI ((k : Nat) : Int)), (2, vI ((rowL (fun j => M (a + 1) j) k (L - (k + 1)) (k + 1) : Nat) : Int)), (4, vI ((rowL (fun j => M (a + 1) j) k (L - (k + 1)) (k + 1) : Nat) : Int)), (3, vI ((k : Nat) : Int)), (0, vR a)]) dX6_startOfLongestRow_31 rfl (by decide) rfl ?_
        refine gx_iinc (v := ((k + 1 : Nat) : Int)) (lv' := [(3, vI ((k + 1 : Nat) : Int)), (1, vI ((k : Nat) : Int)), (2, vI ((rowL (fun j => M (a + 1) j) k (L - (k + 1)) (k + 1) : Nat) : Int)), (4, vI ((rowL (fun j => M (a + 1) j) k (L - (k + 1)) (k + 1) : Nat) : Int)), (0, vR a)]) 3 dX6_startOfLongestRow_32 rfl (by omega) ⟨by omega, by omega⟩ (by decide) rfl ?_
        refine go_goto (tgt := 6) dX6_startOfLongestRow_35 rfl ?_
        refine go_lv [0, 1, 2, 4] rfl ?_
        have e5 : ((k : Nat) : Int) = (fo (longG (fun j => M (a + 1) j) L) (k + 1) (-1, 0)).1 := by (rw [fo, longG]; first | (rw [if_pos (by omega)]; done) | (rw [if_neg (by omega)]; done) | (rw [if_pos (by omega)]; rfl) | (rw [if_neg (by omega)]; rfl))
        rw [e5]
        have e6 : ((rowL (fun j => M (a + 1) j) k (L - (k + 1)) (k + 1) : Nat) : Int) = (fo (longG (fun j => M (a + 1) j) L) (k + 1) (-1, 0)).2 := by (rw [fo, longG]; first | (rw [if_pos (by omega)]; done) | (rw [if_neg (by omega)]; done) | (rw [if_pos (by omega)]; rfl) | (rw [if_neg (by omega)]; rfl))
        rw [e6]
        exact ih (k + 1) (by omega) (by omega)

set_option maxHeartbeats 4000000 in
set_option maxRecDepth 100000 in
theorem ok_X6_startOfLongestRow {a w L : Nat} {M : inm} {Q : Int → Nat → rfm → inm → Prop} (ha : On a) (hL : Lay M a L) (hQ : Q (fo (longG (fun j => M (a + 1) j) L) L (-1, 0)).1 303 (PP w) M) : OkI yX6_startOfLongestRow cX6_startOfLongestRow 5 2 0 0 (some .int) [vR a] 303 (PP w) M Q := by
  refine OkI.of (by decide +kernel) (by decide +kernel) (Nat.le_of_ble_eq_true rfl) ?_
  refine go_eq (lv' := [(0, vR a)]) rfl rfl rfl rfl rfl ?_
  have hL12 := hL.2.1
  refine go_iconst dX6_startOfLongestRow_0 (by decide) ?_
  refine go_istore_n (lv' := [(1, vI (-1)), (0, vR a)]) dX6_startOfLongestRow_1 rfl (by decide) rfl ?_
  refine go_iconst dX6_startOfLongestRow_2 (by decide) ?_
  refine go_istore_n (lv' := [(2, vI 0), (1, vI (-1)), (0, vR a)]) dX6_startOfLongestRow_3 rfl (by decide) rfl ?_
  refine go_iconst dX6_startOfLongestRow_4 (by decide) ?_
  refine go_istore_n (lv' := [(3, vI 0), (2, vI 0), (1, vI (-1)), (0, vR a)]) dX6_startOfLongestRow_5 rfl (by decide) rfl ?_
  refine go_lv [0, 2, 1, 3] rfl ?_
  exact lp_X6_startOfLongestRow ha hL hQ (L + 1) 0 (by omega) (by omega)

set_option maxHeartbeats 4000000 in
set_option maxRecDepth 100000 in
theorem lp_X6_mostTears {a w E : Nat} {M : inm} {Q : Int → Nat → rfm → inm → Prop} (ha : On a) (hE : E ≤ 5) (hQ : Q (fo (weepG (fun e => M (a + 4) e)) E (-1, -1)).1 303 (PP w) M) : ∀ (d k : Nat), E < k + d → k ≤ E → Go S0 yX6_mostTears cX6_mostTears 5 0 0 0 (some .int) 7 [(4, vI ((k : Nat) : Int)), (2, vI ((fo (weepG (fun e => M (a + 4) e)) k (-1, -1)).1)), (3, vI ((fo (weepG (fun e => M (a + 4) e)) k (-1, -1)).2)), (0, vR a), (1, vI ((E : Nat) : Int))] [] 303 (PP w) M (fun v n P M => ∃ z, v = some (vI z) ∧ Q z n P M) := by
  intro d
  induction d with
  | zero => intro k h1 h2; exfalso; omega
  | succ d ih =>
    intro k h1 h2
    refine go_iload 0 dX6_mostTears_7 rfl ?_
    refine go_iload_n 4 dX6_mostTears_9 rfl rfl ?_
    refine go_icmp_ge (tgt := 47) dX6_mostTears_10 rfl (fun c1 => ?_) (fun c1 => ?_)
    · refine go_iload_n 1 dX6_mostTears_47 rfl rfl ?_
      refine go_iret dX6_mostTears_48 rfl rfl ⟨_, rfl, ?_⟩
      rw [show k = E by omega]
      exact hQ
    · refine go_iload 0 dX6_mostTears_13 rfl ?_
      refine go_iconst dX6_mostTears_15 (by decide) ?_
      refine go_icmp_ge (tgt := 47) dX6_mostTears_16 rfl (fun c2 => ?_) (fun c2 => ?_)
      · refine go_iload_n 1 dX6_mostTears_47 rfl rfl ?_
        refine go_iret dX6_mostTears_48 rfl rfl ⟨_, rfl, ?_⟩
        rw [show k = E by omega]
        exact hQ
      · refine go_aload_n 3 dX6_mostTears_19 rfl rfl ?_
        refine go_getR (r := (a + 4)) dX6_mostTears_20 lk6_25.get ha.k0 ha.l0 rfl (ha.p4 _) ?_
        refine go_iload 0 dX6_mostTears_23 rfl ?_
        refine gx_iaload (v := (M (a + 4) k)) k dX6_mostTears_25 ha.k4 ha.l4 ha.n4 rfl (by omega) rfl ?_
        refine go_iload_n 2 dX6_mostTears_26 rfl rfl ?_
        refine go_icmp_le (tgt := 41) dX6_mostTears_27 rfl (fun c3 => ?_) (fun c3 => ?_)
        · refine gx_iinc (v := ((k + 1 : Nat) : Int)) (lv' := [(4, vI ((k + 1 : Nat) : Int)), (2, vI ((fo (weepG (fun e => M (a + 4) e)) k (-1, -1)).1)), (3, vI ((fo (weepG (fun e => M (a + 4) e)) k (-1, -1)).2)), (0, vR a), (1, vI ((E : Nat) : Int))]) 0 dX6_mostTears_41 rfl (by omega) ⟨by omega, by omega⟩ (by decide) rfl ?_
          refine go_goto (tgt := 7) dX6_mostTears_44 rfl ?_
          have e4 : (fo (weepG (fun e => M (a + 4) e)) k (-1, -1)).1 = (fo (weepG (fun e => M (a + 4) e)) (k + 1) (-1, -1)).1 := by (rw [fo, weepG]; first | (rw [if_pos (by omega)]; done) | (rw [if_neg (by omega)]; done) | (rw [if_pos (by omega)]; rfl) | (rw [if_neg (by omega)]; rfl))
          rw [e4]
          have e5 : (fo (weepG (fun e => M (a + 4) e)) k (-1, -1)).2 = (fo (weepG (fun e => M (a + 4) e)) (k + 1) (-1, -1)).2 := by (rw [fo, weepG]; first | (rw [if_pos (by omega)]; done) | (rw [if_neg (by omega)]; done) | (rw [if_pos (by omega)]; rfl) | (rw [if_neg (by omega)]; rfl))
          rw [e5]
          exact ih (k + 1) (by omega) (by omega)
        · refine go_aload_n 3 dX6_mostTears_30 rfl rfl ?_
          refine go_getR (r := (a + 4)) dX6_mostTears_31 lk6_25.get ha.k0 ha.l0 rfl (ha.p4 _) ?_
          refine go_iload 0 dX6_mostTears_34 rfl ?_
          refine gx_iaload (v := (M (a + 4) k)) k dX6_mostTears_36 ha.k4 ha.l4 ha.n4 rfl (by omega) rfl ?_
          refine go_istore_n (lv' := [(3, vI (M (a + 4) k)), (4, vI ((k : Nat) : Int)), (2, vI ((fo (weepG (fun e => M (a + 4) e)) k (-1, -1)).1)), (0, vR a), (1, vI ((E : Nat) : Int))]) dX6_mostTears_37 rfl (by decide) rfl ?_
          refine go_iload 1 dX6_mostTears_38 rfl ?_
          refine go_istore_n (lv' := [(2, vI ((k : Nat) : Int)), (3, vI (M (a + 4) k)), (4, vI ((k : Nat) : Int)), (0, vR a), (1, vI ((E : Nat) : Int))]) dX6_mostTears_40 rfl (by decide) rfl ?_
          refine gx_iinc (v := ((k + 1 : Nat) : Int)) (lv' := [(4, vI ((k + 1 : Nat) : Int)), (2, vI ((k : Nat) : Int)), (3, vI (M (a + 4) k)), (0, vR a), (1, vI ((E : Nat) : Int))]) 2 dX6_mostTears_41 rfl (by omega) ⟨by omega, by omega⟩ (by decide) rfl ?_
          refine go_goto (tgt := 7) dX6_mostTears_44 rfl ?_
          have e6 : ((k : Nat) : Int) = (fo (weepG (fun e => M (a + 4) e)) (k + 1) (-1, -1)).1 := by (rw [fo, weepG]; first | (rw [if_pos (by omega)]; done) | (rw [if_neg (by omega)]; done) | (rw [if_pos (by omega)]; rfl) | (rw [if_neg (by omega)]; rfl))
          rw [e6]
          have e7 : (M (a + 4) k) = (fo (weepG (fun e => M (a + 4) e)) (k + 1) (-1, -1)).2 := by (rw [fo, weepG]; first | (rw [if_pos (by omega)]; done) | (rw [if_neg (by omega)]; done) | (rw [if_pos (by omega)]; rfl) | (rw [if_neg (by omega)]; rfl))
          rw [e7]
          exact ih (k + 1) (by omega) (by omega)

set_option maxHeartbeats 4000000 in
set_option maxRecDepth 100000 in
theorem ok_X6_mostTears {a w E : Nat} {M : inm} {Q : Int → Nat → rfm → inm → Prop} (ha : On a) (hE : E ≤ 5) (hQ : Q (fo (weepG (fun e => M (a + 4) e)) E (-1, -1)).1 303 (PP w) M) : OkI yX6_mostTears cX6_mostTears 5 0 0 0 (some .int) [vR a, vI ((E : Nat) : Int)] 303 (PP w) M Q := by
  refine OkI.of (by decide +kernel) (by decide +kernel) (Nat.le_of_ble_eq_true rfl) ?_
  refine go_eq (lv' := [(0, vR a), (1, vI ((E : Nat) : Int))]) rfl rfl rfl rfl rfl ?_
  refine go_iconst dX6_mostTears_0 (by decide) ?_
  refine go_istore_n (lv' := [(2, vI (-1)), (0, vR a), (1, vI ((E : Nat) : Int))]) dX6_mostTears_1 rfl (by decide) rfl ?_
  refine go_iconst dX6_mostTears_2 (by decide) ?_
  refine go_istore_n (lv' := [(3, vI (-1)), (2, vI (-1)), (0, vR a), (1, vI ((E : Nat) : Int))]) dX6_mostTears_3 rfl (by decide) rfl ?_
  refine go_iconst dX6_mostTears_4 (by decide) ?_
  refine go_istore (lv' := [(4, vI 0), (3, vI (-1)), (2, vI (-1)), (0, vR a), (1, vI ((E : Nat) : Int))]) dX6_mostTears_5 (by decide) rfl ?_
  refine go_lv [0, 2, 1, 3, 4] rfl ?_
  exact lp_X6_mostTears ha hE hQ (E + 1) 0 (by omega) (by omega)

theorem dry_in {T q : Nat → Int} : ∀ n, (∀ e, e < n → 0 ≤ T e ∧ T e ≤ 9999) → (∀ e, e < n → 1 ≤ q e ∧ q e ≤ 9) → 0 ≤ fo (dryG T q) n 0 ∧ fo (dryG T q) n 0 ≤ 99999
  | 0, _, _ => ⟨Int.le_refl 0, by show (0 : Int) ≤ 99999; omega⟩
  | n + 1, h1, h2 => by
    have ih := dry_in n (fun e he => h1 e (by omega)) (fun e he => h2 e (by omega))
    have a1 := h1 n (by omega)
    have a2 := h2 n (by omega)
    show 0 ≤ max _ ((T n + q n - 1) / q n) ∧ max _ ((T n + q n - 1) / q n) ≤ 99999
    have a3 : (T n + q n - 1) / q n ≤ T n + q n - 1 := Int.ediv_le_self _ (by omega)
    omega
set_option maxHeartbeats 4000000 in
set_option maxRecDepth 100000 in
theorem lp_X6_dryIn {a w v E : Nat} {M : inm} {Q : Int → Nat → rfm → inm → Prop} (ha : On a) (hv : Cs v) (hE : M v 3 = (E : Int) ∧ E ≤ 5) (hT : ∀ e, e < E → 0 ≤ M (a + 4) e ∧ M (a + 4) e ≤ 9999) (hq : ∀ e, e < E → 1 ≤ M (v + 4) e ∧ M (v + 4) e ≤ 9) (hQ : Q (fo (dryG (fun e => M (a + 4) e) (fun e => M (v + 4) e)) E 0) 303 (PP w) M) : ∀ (d k : Nat), E < k + d → k ≤ E → Go S0 yX6_dryIn cX6_dryIn 5 1 0 0 (some .int) 4 [(3, vI ((k : Nat) : Int)), (2, vI (fo (dryG (fun e => M (a + 4) e) (fun e => M (v + 4) e)) k 0)), (0, vR a), (1, vR v)] [] 303 (PP w) M (fun v n P M => ∃ z, v = some (vI z) ∧ Q z n P M) := by
  have hE5 := hE.2
  intro d
  induction d with
  | zero => intro k h1 h2; exfalso; omega
  | succ d ih =>
    intro k h1 h2
    have hm := dry_in (T := fun e => M (a + 4) e) (q := fun e => M (v + 4) e) k (fun e he => hT e (by omega)) (fun e he => hq e (by omega))
    refine go_iload_n 0 dX6_dryIn_4 rfl rfl ?_
    refine go_aload_n 3 dX6_dryIn_5 rfl rfl ?_
    refine gx_getI (v := ((E : Nat) : Int)) dX6_dryIn_6 lk6_85.get hv.k0 hv.l0 rfl hE.1 ?_
    refine go_icmp_ge (tgt := 49) dX6_dryIn_9 rfl (fun c1 => ?_) (fun c1 => ?_)
    · refine go_iload_n 1 dX6_dryIn_49 rfl rfl ?_
      refine go_iret dX6_dryIn_50 rfl rfl ⟨_, rfl, ?_⟩
      rw [show k = E by omega]
      exact hQ
    · refine go_iconst dX6_dryIn_12 (by decide) ?_
      refine go_aload_n 3 dX6_dryIn_13 rfl rfl ?_
      refine go_getR (r := (v + 4)) dX6_dryIn_14 lk6_88 hv.k0 hv.l0 rfl (hv.p8 _) ?_
      refine go_iload_n 0 dX6_dryIn_17 rfl rfl ?_
      have f2 := hq k (by omega)
      refine gx_iaload (v := (M (v + 4) k)) k dX6_dryIn_18 hv.k4 (hv.l (by omega)) hv.n4 rfl (by omega) rfl ?_
      refine gx_max (v := (max 1 (M (v + 4) k))) dX6_dryIn_19 mm6_91 (by decide) (Nat.le_of_ble_eq_true rfl) rfl ?_
      refine go_istore (lv' := [(4, vI (max 1 (M (v + 4) k))), (3, vI ((k : Nat) : Int)), (2, vI (fo (dryG (fun e => M (a + 4) e) (fun e => M (v + 4) e)) k 0)), (0, vR a), (1, vR v)]) dX6_dryIn_22 (by decide) rfl ?_
      refine go_iload_n 2 dX6_dryIn_24 rfl rfl ?_
      refine go_aload_n 3 dX6_dryIn_25 rfl rfl ?_
      refine go_getR (r := (a + 4)) dX6_dryIn_26 lk6_25.get ha.k0 ha.l0 rfl (ha.p4 _) ?_
      refine go_iload_n 1 dX6_dryIn_29 rfl rfl ?_
      have f3 := hT k (by omega)
      refine gx_iaload (v := (M (a + 4) k)) k dX6_dryIn_30 ha.k4 ha.l4 ha.n4 rfl (by omega) rfl ?_
      refine go_iload 0 dX6_dryIn_31 rfl ?_
      refine gx_iadd (v := ((M (a + 4) k) + (max 1 (M (v + 4) k)))) dX6_dryIn_33 rfl ⟨by omega, by omega⟩ ?_
      refine go_iconst dX6_dryIn_34 (by decide) ?_
      refine gx_isub (v := (((M (a + 4) k) + (max 1 (M (v + 4) k))) - 1)) dX6_dryIn_35 rfl ⟨by omega, by omega⟩ ?_
      refine go_iload 0 dX6_dryIn_36 rfl ?_
      refine gx_idiv (v := ((((M (a + 4) k) + (max 1 (M (v + 4) k))) - 1) / (max 1 (M (v + 4) k)))) dX6_dryIn_38 rfl (by omega) (by omega) ?_
      refine gx_max (v := (max (fo (dryG (fun e => M (a + 4) e) (fun e => M (v + 4) e)) k 0) ((((M (a + 4) k) + (max 1 (M (v + 4) k))) - 1) / (max 1 (M (v + 4) k))))) dX6_dryIn_39 mm6_91 (by decide) (Nat.le_of_ble_eq_true rfl) rfl ?_
      refine go_istore_n (lv' := [(2, vI (max (fo (dryG (fun e => M (a + 4) e) (fun e => M (v + 4) e)) k 0) ((((M (a + 4) k) + (max 1 (M (v + 4) k))) - 1) / (max 1 (M (v + 4) k))))), (4, vI (max 1 (M (v + 4) k))), (3, vI ((k : Nat) : Int)), (0, vR a), (1, vR v)]) dX6_dryIn_42 rfl (by decide) rfl ?_
      refine gx_iinc (v := ((k + 1 : Nat) : Int)) (lv' := [(3, vI ((k + 1 : Nat) : Int)), (2, vI (max (fo (dryG (fun e => M (a + 4) e) (fun e => M (v + 4) e)) k 0) ((((M (a + 4) k) + (max 1 (M (v + 4) k))) - 1) / (max 1 (M (v + 4) k))))), (4, vI (max 1 (M (v + 4) k))), (0, vR a), (1, vR v)]) 2 dX6_dryIn_43 rfl (by omega) ⟨by omega, by omega⟩ (by decide) rfl ?_
      refine go_goto (tgt := 4) dX6_dryIn_46 rfl ?_
      refine go_lv [0, 1, 3, 4] rfl ?_
      have e4 : (max (fo (dryG (fun e => M (a + 4) e) (fun e => M (v + 4) e)) k 0) ((((M (a + 4) k) + (max 1 (M (v + 4) k))) - 1) / (max 1 (M (v + 4) k)))) = (fo (dryG (fun e => M (a + 4) e) (fun e => M (v + 4) e)) (k + 1) 0) := by (rw [fo, dryG]; first | rfl | (rw [Int.max_eq_right (show (1 : Int) ≤ M (v + 4) k by omega)]; done) | (rw [Int.max_eq_right (show (1 : Int) ≤ M (v + 4) k by omega)]; rfl))
      rw [e4]
      exact ih (k + 1) (by omega) (by omega)

set_option maxHeartbeats 4000000 in
set_option maxRecDepth 100000 in
theorem ok_X6_dryIn {a w v E : Nat} {M : inm} {Q : Int → Nat → rfm → inm → Prop} (ha : On a) (hv : Cs v) (hE : M v 3 = (E : Int) ∧ E ≤ 5) (hT : ∀ e, e < E → 0 ≤ M (a + 4) e ∧ M (a + 4) e ≤ 9999) (hq : ∀ e, e < E → 1 ≤ M (v + 4) e ∧ M (v + 4) e ≤ 9) (hQ : Q (fo (dryG (fun e => M (a + 4) e) (fun e => M (v + 4) e)) E 0) 303 (PP w) M) : OkI yX6_dryIn cX6_dryIn 5 1 0 0 (some .int) [vR a, vR v] 303 (PP w) M Q := by
  refine OkI.of (by decide +kernel) (by decide +kernel) (Nat.le_of_ble_eq_true rfl) ?_
  refine go_eq (lv' := [(0, vR a), (1, vR v)]) rfl rfl rfl rfl rfl ?_
  refine go_iconst dX6_dryIn_0 (by decide) ?_
  refine go_istore_n (lv' := [(2, vI 0), (0, vR a), (1, vR v)]) dX6_dryIn_1 rfl (by decide) rfl ?_
  refine go_iconst dX6_dryIn_2 (by decide) ?_
  refine go_istore_n (lv' := [(3, vI 0), (2, vI 0), (0, vR a), (1, vR v)]) dX6_dryIn_3 rfl (by decide) rfl ?_
  exact lp_X6_dryIn ha hv hE hT hq hQ (E + 1) 0 (by omega) (by omega)

