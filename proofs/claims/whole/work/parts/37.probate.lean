/-! ===== the text read, probate ===== -/
def RdF (M : inm) (v n p L E T : Nat) : Prop := M 1 2 = (n : Int) ∧ M 1 3 = (p : Int) ∧ p ≤ n ∧ (∀ j, j < n → 0 ≤ M 2 j ∧ M 2 j ≤ 255) ∧ M v 2 = (L : Int) ∧ M v 3 = (E : Int) ∧ M v 4 = (T : Int)
def mRd0 (M : inm) (v n : Nat) : inm := up2 (up2 (up2 (up2 (up2 (mClear M v) 1 3 0) 1 4 0) 1 5 (-1)) 1 3 ((skp (fun j => M 2 j) n 0 : Nat) : Int)) v 0 (if skp (fun j => M 2 j) n 0 < n then 1 else 0)
theorem mClear_ne {M : inm} {v x j : Nat} (h : x ≠ v ∨ 4 < j) : mClear M v x j = M x j := by
  unfold mClear
  rw [up2_ne (by omega), up2_ne (by omega), up2_ne (by omega), up2_ne (by omega), up2_ne (by omega)]
set_option maxHeartbeats 4000000 in
set_option maxRecDepth 100000 in
theorem lp_X7_readInto {w n v : Nat} {Q : Nat → rfm → inm → Prop} (hv : Cs v) (h240 : n ≤ 240) (I : Nat → inm → Prop) (hlen : ∀ k M', I k M' → M' 1 2 = (n : Int)) (hstep : ∀ k M', k < 240 → I k M' → M' 1 4 = 0 → M' 1 3 < (n : Int) → ∃ p L E T, RdF M' v n p L E T ∧ I (k + 1) (mClause M' v n p L E T)) (hend : ∀ M', I 240 M' → ¬ (M' 1 4 = 0 ∧ M' 1 3 < (n : Int))) (hQ : ∀ k M', I k M' → ¬ (M' 1 4 = 0 ∧ M' 1 3 < (n : Int)) → Q 303 (PP w) (up2 M' 1 2 0)) : ∀ d k, 240 < k + d → k ≤ 240 → ∀ M' : inm, I k M' → Go S0 yX7_readInto cX7_readInto 3 5 0 0 none 45 [(2, vI ((k : Nat) : Int)), (0, vR 1), (1, vR v)] [] 303 (PP w) M' (fun v n P M => v = none ∧ Q n P M) := by
  intro d
  induction d with
  | zero => intro k h1 h2; exfalso; omega
  | succ d ih =>
    intro k h1 h2 M' hI
    have hnl := hlen k M' hI
    refine go_iload_n 0 dX7_readInto_45 rfl rfl ?_
    refine go_sipush dX7_readInto_46 (by decide) (by decide) ?_
    refine go_icmp_ge (tgt := 81) dX7_readInto_49 rfl (fun c1 => ?_) (fun c1 => ?_)
    · refine go_aload_n 1 dX7_readInto_81 rfl rfl ?_
      refine go_iconst dX7_readInto_82 (by decide) ?_
      refine go_putI dX7_readInto_83 (Or.inl lk7_18) kd_1 (by omega) rfl (Or.inl rfl) ?_
      refine go_ret dX7_readInto_86 rfl ⟨rfl, ?_⟩
      first | exact hQ k M' hI (by omega) | (rw [show k = 240 by omega] at hI; exact hQ 240 M' hI (hend M' hI))
    · refine go_aload_n 1 dX7_readInto_52 rfl rfl ?_
      refine gx_getI (v := (M' 1 4)) dX7_readInto_53 lk7_25.get kd_1 (by omega) rfl rfl ?_
      refine go_if_ne (tgt := 81) dX7_readInto_56 rfl (fun c2 => ?_) (fun c2 => ?_)
      · refine go_aload_n 1 dX7_readInto_81 rfl rfl ?_
        refine go_iconst dX7_readInto_82 (by decide) ?_
        refine go_putI dX7_readInto_83 (Or.inl lk7_18) kd_1 (by omega) rfl (Or.inl rfl) ?_
        refine go_ret dX7_readInto_86 rfl ⟨rfl, ?_⟩
        first | exact hQ k M' hI (by omega) | (rw [show k = 240 by omega] at hI; exact hQ 240 M' hI (hend M' hI))
      · refine go_aload_n 1 dX7_readInto_59 rfl rfl ?_
        refine gx_getI (v := (M' 1 3)) dX7_readInto_60 lk7_22.get kd_1 (by omega) rfl rfl ?_
        refine go_aload_n 1 dX7_readInto_63 rfl rfl ?_
        refine gx_getI (v := ((n : Nat) : Int)) dX7_readInto_64 lk7_18.get kd_1 (by omega) rfl hnl ?_
        refine go_icmp_ge (tgt := 81) dX7_readInto_67 rfl (fun c3 => ?_) (fun c3 => ?_)
        · refine go_aload_n 1 dX7_readInto_81 rfl rfl ?_
          refine go_iconst dX7_readInto_82 (by decide) ?_
          refine go_putI dX7_readInto_83 (Or.inl lk7_18) kd_1 (by omega) rfl (Or.inl rfl) ?_
          refine go_ret dX7_readInto_86 rfl ⟨rfl, ?_⟩
          first | exact hQ k M' hI (by omega) | (rw [show k = 240 by omega] at hI; exact hQ 240 M' hI (hend M' hI))
        · obtain ⟨p, L, E, T, hR, hI2⟩ := hstep k M' (by omega) hI (by omega) (by omega)
          refine go_aload_n 1 dX7_readInto_70 rfl rfl ?_
          refine go_aload_n 2 dX7_readInto_71 rfl rfl ?_
          refine go_callVV (av := [vR v]) (st := []) (a := 1) (mc2 := 0) (ms2 := 0) dX7_readInto_72 cw7_44 (by decide) rfl rfl (Nat.le_of_ble_eq_true rfl) rfl rfl kd_1 ⟨_, _, rfl⟩ (by decide) (by omega) (ok_X7_readClause (n := n) (p := p) (L := L) (E := E) (T := T) (M0 := M') hv hR.1 hR.2.1 h240 hR.2.2.1 hR.2.2.2.1 hR.2.2.2.2.1 hR.2.2.2.2.2.1 hR.2.2.2.2.2.2 (by have := hR.2.1; omega) ?_)
          refine gx_iinc (v := ((k + 1 : Nat) : Int)) (lv' := [(2, vI ((k + 1 : Nat) : Int)), (0, vR 1), (1, vR v)]) 0 dX7_readInto_75 rfl (by omega) ⟨by omega, by omega⟩ (by decide) rfl ?_
          refine go_goto (tgt := 45) dX7_readInto_78 rfl ?_
          refine go_lv [0, 1, 2] rfl ?_
          exact ih (k + 1) (by omega) (by omega) _ hI2

set_option maxHeartbeats 4000000 in
set_option maxRecDepth 100000 in
theorem ok_X7_readInto {w n v : Nat} {M : inm} {Q : Nat → rfm → inm → Prop} (hv : Cs v) (hn : M 1 2 = (n : Int)) (h240 : n ≤ 240) (I : Nat → inm → Prop) (hlen : ∀ k M', I k M' → M' 1 2 = (n : Int)) (hstep : ∀ k M', k < 240 → I k M' → M' 1 4 = 0 → M' 1 3 < (n : Int) → ∃ p L E T, RdF M' v n p L E T ∧ I (k + 1) (mClause M' v n p L E T)) (hend : ∀ M', I 240 M' → ¬ (M' 1 4 = 0 ∧ M' 1 3 < (n : Int))) (hQ : ∀ k M', I k M' → ¬ (M' 1 4 = 0 ∧ M' 1 3 < (n : Int)) → Q 303 (PP w) (up2 M' 1 2 0)) (hI : I 0 (mRd0 M v n)) : OkV yX7_readInto cX7_readInto 3 5 0 0 [vR 1, vR v] 303 (PP w) M Q := by
  refine OkV.of (by decide +kernel) (by decide +kernel) (Nat.le_of_ble_eq_true rfl) ?_
  refine go_eq (lv' := [(0, vR 1), (1, vR v)]) rfl rfl rfl rfl rfl ?_
  have hvs := hv.sc
  have hv4 : 4 ≤ v := by rcases hv with rfl | rfl <;> decide
  refine go_aload_n 1 dX7_readInto_0 rfl rfl ?_
  refine go_callVV (av := []) (st := []) (a := v) (mc2 := 0) (ms2 := 0) dX7_readInto_1 cw7_32 (by decide) rfl rfl (Nat.le_of_ble_eq_true rfl) rfl rfl hv.k0 ⟨_, _, rfl⟩ (by decide) hv.l0 (ok_X1_clear hv ?_)
  refine go_aload_n 0 dX7_readInto_4 rfl rfl ?_
  refine go_iconst dX7_readInto_5 (by decide) ?_
  refine go_putI dX7_readInto_6 (Or.inl lk7_22) kd_1 (by omega) rfl (Or.inl rfl) ?_
  refine go_aload_n 0 dX7_readInto_9 rfl rfl ?_
  refine go_iconst dX7_readInto_10 (by decide) ?_
  refine go_putI dX7_readInto_11 (Or.inl lk7_25) kd_1 (by omega) rfl (Or.inl rfl) ?_
  refine go_aload_n 0 dX7_readInto_14 rfl rfl ?_
  refine go_iconst dX7_readInto_15 (by decide) ?_
  refine go_putI dX7_readInto_16 (Or.inl lk7_28) kd_1 (by omega) rfl (Or.inl rfl) ?_
  refine go_aload_n 0 dX7_readInto_19 rfl rfl ?_
  refine go_callVV (av := []) (st := []) (a := 1) (mc2 := 0) (ms2 := 0) dX7_readInto_20 cw7_37 (by decide) rfl rfl (Nat.le_of_ble_eq_true rfl) rfl rfl kd_1 ⟨_, _, rfl⟩ (by decide) (by omega) (ok_X7_skipBlanks (n := n) (p := 0) (M := (up2 (up2 (up2 (mClear M v) 1 3 0) 1 4 0) 1 5 (-1))) ((up2_ne (by omega)).trans ((up2_ne (by omega)).trans ((up2_ne (by omega)).trans (((mClear_ne (by omega))).trans hn)))) ((up2_ne (by omega)).trans ((up2_ne (by omega)).trans up2_same)) h240 (by omega) ?_)
  rw [show (fun j => (up2 (up2 (up2 (mClear M v) 1 3 0) 1 4 0) 1 5 (-1)) 2 j) = (fun j => M 2 j) from funext (fun j => ((up2_ne (by omega)).trans ((up2_ne (by omega)).trans ((up2_ne (by omega)).trans ((mClear_ne (by omega)))))))]
  refine go_aload_n 1 dX7_readInto_23 rfl rfl ?_
  refine go_aload_n 0 dX7_readInto_24 rfl rfl ?_
  refine gx_getI (v := ((skp (fun j => M 2 j) n 0 : Nat) : Int)) dX7_readInto_25 lk7_22.get kd_1 (by omega) rfl up2_same ?_
  refine go_aload_n 0 dX7_readInto_28 rfl rfl ?_
  refine gx_getI (v := ((n : Nat) : Int)) dX7_readInto_29 lk7_18.get kd_1 (by omega) rfl ((up2_ne (by omega)).trans (((up2_ne (by omega)).trans ((up2_ne (by omega)).trans ((up2_ne (by omega)).trans (((mClear_ne (by omega))).trans hn)))))) ?_
  refine go_icmp_ge (tgt := 39) dX7_readInto_32 rfl (fun c1 => ?_) (fun c1 => ?_)
  · refine go_iconst dX7_readInto_39 (by decide) ?_
    refine go_putZ (fin := false) dX7_readInto_40 (Or.inr ⟨lk7_40, rfl⟩) hv.k0 hv.l0 rfl (Or.inl rfl) (by decide) ?_
    refine go_iconst dX7_readInto_43 (by decide) ?_
    refine go_istore_n (lv' := [(2, vI 0), (0, vR 1), (1, vR v)]) dX7_readInto_44 rfl (by decide) rfl ?_
    refine go_lv [0, 1, 2] rfl ?_
    refine go_m (M' := mRd0 M v n) (by unfold mRd0; first | (rw [if_pos (by omega)]; done) | (rw [if_neg (by omega)]; done)) ?_
    exact lp_X7_readInto hv h240 I hlen hstep hend hQ 241 0 (by omega) (by omega) _ hI
  · refine go_iconst dX7_readInto_35 (by decide) ?_
    refine go_goto (tgt := 40) dX7_readInto_36 rfl ?_
    refine go_putZ (fin := false) dX7_readInto_40 (Or.inr ⟨lk7_40, rfl⟩) hv.k0 hv.l0 rfl (Or.inl rfl) (by decide) ?_
    refine go_iconst dX7_readInto_43 (by decide) ?_
    refine go_istore_n (lv' := [(2, vI 0), (0, vR 1), (1, vR v)]) dX7_readInto_44 rfl (by decide) rfl ?_
    refine go_lv [0, 1, 2] rfl ?_
    refine go_m (M' := mRd0 M v n) (by unfold mRd0; first | (rw [if_pos (by omega)]; done) | (rw [if_neg (by omega)]; done)) ?_
    exact lp_X7_readInto hv h240 I hlen hstep hend hQ 241 0 (by omega) (by omega) _ hI

theorem Cs.other {w : Nat} (h : Cs w) : Cs (21 - w) := by rcases h with rfl | rfl; exact Or.inr rfl; exact Or.inl rfl
theorem PP_swap {w : Nat} (h : Cs w) : up2 (up2 (PP w) 0 1 (some (21 - w))) 0 2 (some w) = PP (21 - w) := by
  funext x j
  unfold up2 PP
  by_cases h1 : x = 0 ∧ j = 2
  · rw [if_pos h1, if_neg (by omega), if_pos h1, show 21 - (21 - w) = w by rcases h with rfl | rfl <;> rfl]
  · rw [if_neg h1]
    by_cases h2 : x = 0 ∧ j = 1
    · rw [if_pos h2, if_pos h2]
    · rw [if_neg h2, if_neg h2, if_neg h1, if_neg h2, if_neg h1]
def mProb (M : inm) (w : Nat) : inm := up2 (up2 (mForget (up2 (up2 (mBegin M 30 (21 - w)) 266 3 0) 270 2 0)) 250 0 0) 258 0 0
set_option maxHeartbeats 4000000 in
set_option maxRecDepth 100000 in
theorem pb_50 {w : Nat} {M : inm} {Q : Int → Nat → rfm → inm → Prop} (hw : Cs w) (hQ : Q (mProb M w 30 0) 303 (PP (21 - w)) (mProb M w)) : Go S0 yX9_probate cX9_probate 3 6 0 0 (some .int) 50 [(1, vR w), (0, vR 0)] [] 303 (PP (21 - w)) M (fun v n P M => ∃ z, v = some (vI z) ∧ Q z n P M) := by
  refine go_aload_n 1 dX9_probate_50 rfl rfl ?_
  refine go_getR (r := 30) dX9_probate_51 lk9_29.get kd_0 (by omega) rfl (pp_0_3 (21 - w)) ?_
  refine go_aload_n 1 dX9_probate_54 rfl rfl ?_
  refine go_getR (r := (21 - w)) dX9_probate_55 lk9_19.get kd_0 (by omega) rfl (pp_0_1 (21 - w)) ?_
  refine go_callVV (av := [vR (21 - w)]) (st := []) (a := 30) (mc2 := 0) (ms2 := 0) dX9_probate_58 cw9_88 (by decide) rfl rfl (Nat.le_of_ble_eq_true rfl) rfl rfl kd_30 ⟨_, _, rfl⟩ (by decide) (by omega) (ok_X6_begin (M := M) On_30 hw.other ?_)
  refine go_aload_n 1 dX9_probate_61 rfl rfl ?_
  refine go_getR (r := 266) dX9_probate_62 lk9_50.get kd_0 (by omega) rfl (pp_0_6 (21 - w)) ?_
  refine go_iconst dX9_probate_65 (by decide) ?_
  refine go_putI (fin := false) dX9_probate_66 (Or.inr ⟨lk9_91, rfl⟩) kd_266 (by omega) rfl (Or.inl rfl) ?_
  refine go_aload_n 1 dX9_probate_69 rfl rfl ?_
  refine go_getR (r := 270) dX9_probate_70 lk9_57.get kd_0 (by omega) rfl (pp_0_7 (21 - w)) ?_
  refine go_iconst dX9_probate_73 (by decide) ?_
  refine go_putI (fin := false) dX9_probate_74 (Or.inr ⟨lk9_94, rfl⟩) kd_270 (by omega) rfl (Or.inl rfl) ?_
  refine go_aload_n 1 dX9_probate_77 rfl rfl ?_
  refine go_getR (r := 37) dX9_probate_78 lk9_36.get kd_0 (by omega) rfl (pp_0_4 (21 - w)) ?_
  refine go_callVV (av := []) (st := []) (a := 37) (mc2 := 0) (ms2 := 0) dX9_probate_81 cw9_95 (by decide) rfl rfl (Nat.le_of_ble_eq_true rfl) rfl rfl kd_37 ⟨_, _, rfl⟩ (by decide) (by omega) (ok_X2_forget ?_)
  refine go_iconst dX9_probate_84 (by decide) ?_
  refine go_istore_n (lv' := [(2, vI 0), (1, vR w), (0, vR 0)]) dX9_probate_85 rfl (by decide) rfl ?_
  refine go_iload_n 0 dX9_probate_86 rfl rfl ?_
  refine go_iconst dX9_probate_87 (by decide) ?_
  refine go_icmp_ge (tgt := 107) dX9_probate_88 rfl (fun c1 => ?_) (fun c1 => ?_)
  · exact absurd c1 (by decide)
  · refine go_aload_n 2 dX9_probate_91 rfl rfl ?_
    refine go_getR (r := 249) dX9_probate_92 lk9_42.get kd_0 (by omega) rfl (pp_0_5 (21 - w)) ?_
    refine go_iload_n 0 dX9_probate_95 rfl rfl ?_
    refine gx_aaload (c0 := 3) (r := 250) 0 dX9_probate_96 kd_249 (by decide) (by decide) (by omega) ln_249 (by omega) (by omega) rfl ?_
    refine go_iconst dX9_probate_97 (by decide) ?_
    refine go_putZ (fin := false) dX9_probate_98 (Or.inr ⟨lk9_98, rfl⟩) kd_250 (by omega) rfl (Or.inl rfl) (by decide) ?_
    refine gx_iinc (v := 1) (lv' := [(2, vI 1), (1, vR w), (0, vR 0)]) 0 dX9_probate_101 rfl (by omega) ⟨by omega, by omega⟩ (by decide) rfl ?_
    refine go_goto (tgt := 86) dX9_probate_104 rfl ?_
    refine go_iload_n 0 dX9_probate_86 rfl rfl ?_
    refine go_iconst dX9_probate_87 (by decide) ?_
    refine go_icmp_ge (tgt := 107) dX9_probate_88 rfl (fun c2 => ?_) (fun c2 => ?_)
    · exact absurd c2 (by decide)
    · refine go_aload_n 2 dX9_probate_91 rfl rfl ?_
      refine go_getR (r := 249) dX9_probate_92 lk9_42.get kd_0 (by omega) rfl (pp_0_5 (21 - w)) ?_
      refine go_iload_n 0 dX9_probate_95 rfl rfl ?_
      refine gx_aaload (c0 := 3) (r := 258) 1 dX9_probate_96 kd_249 (by decide) (by decide) (by omega) ln_249 (by omega) (by omega) rfl ?_
      refine go_iconst dX9_probate_97 (by decide) ?_
      refine go_putZ (fin := false) dX9_probate_98 (Or.inr ⟨lk9_98, rfl⟩) kd_258 (by omega) rfl (Or.inl rfl) (by decide) ?_
      refine gx_iinc (v := 2) (lv' := [(2, vI 2), (1, vR w), (0, vR 0)]) 0 dX9_probate_101 rfl (by omega) ⟨by omega, by omega⟩ (by decide) rfl ?_
      refine go_goto (tgt := 86) dX9_probate_104 rfl ?_
      refine go_iload_n 0 dX9_probate_86 rfl rfl ?_
      refine go_iconst dX9_probate_87 (by decide) ?_
      refine go_icmp_ge (tgt := 107) dX9_probate_88 rfl (fun c3 => ?_) (fun c3 => ?_)
      · refine go_aload_n 2 dX9_probate_107 rfl rfl ?_
        refine go_getR (r := 30) dX9_probate_108 lk9_29.get kd_0 (by omega) rfl (pp_0_3 (21 - w)) ?_
        refine gx_getI (v := ((mForget (up2 (up2 (mBegin M 30 (21 - w)) 266 3 0) 270 2 0)) 30 0)) dX9_probate_111 lk9_102.get kd_30 (by omega) rfl ((up2_ne (by omega)).trans (up2_ne (by omega))) ?_
        refine go_iret dX9_probate_114 rfl rfl ⟨_, rfl, ?_⟩
        exact hQ
      · exact absurd c3 (by decide)

set_option maxHeartbeats 4000000 in
set_option maxRecDepth 100000 in
theorem ok_X9_probate {w n : Nat} {M : inm} {Q : Int → Nat → rfm → inm → Prop} (hw : Cs w) (hn : M 1 2 = (n : Int)) (h240 : n ≤ 240) (I : Nat → inm → Prop) (hlen : ∀ k M', I k M' → M' 1 2 = (n : Int)) (hstep : ∀ k M', k < 240 → I k M' → M' 1 4 = 0 → M' 1 3 < (n : Int) → ∃ p L E T, RdF M' (21 - w) n p L E T ∧ I (k + 1) (mClause M' (21 - w) n p L E T)) (hend : ∀ M', I 240 M' → ¬ (M' 1 4 = 0 ∧ M' 1 3 < (n : Int))) (hF : ∀ k M', I k M' → ¬ (M' 1 4 = 0 ∧ M' 1 3 < (n : Int)) → ¬ M' 1 4 = 0 → 0 ≤ M' 1 4 ∧ M' 1 4 ≤ 9 ∧ Q (-10 - M' 1 4) 303 (PP w) (up2 M' 1 2 0)) (hQ : ∀ k M', I k M' → ¬ (M' 1 4 = 0 ∧ M' 1 3 < (n : Int)) → M' 1 4 = 0 → Q (mProb (up2 M' 1 2 0) w 30 0) 303 (PP (21 - w)) (mProb (up2 M' 1 2 0) w)) (hI : I 0 (mRd0 M (21 - w) n)) : OkI yX9_probate cX9_probate 3 6 0 0 (some .int) [vR 0] 303 (PP w) M Q := by
  refine OkI.of (by decide +kernel) (by decide +kernel) (Nat.le_of_ble_eq_true rfl) ?_
  refine go_eq (lv' := [(0, vR 0)]) rfl rfl rfl rfl rfl ?_
  refine go_aload_n 0 dX9_probate_0 rfl rfl ?_
  refine go_getR (r := 1) dX9_probate_1 lk9_10.get kd_0 (by omega) rfl (pp_0_0 w) ?_
  refine go_aload_n 0 dX9_probate_4 rfl rfl ?_
  refine go_getR (r := (21 - w)) dX9_probate_5 lk9_23.get kd_0 (by omega) rfl (pp_0_2 w) ?_
  refine go_callVV (av := [vR (21 - w)]) (st := []) (a := 1) (mc2 := 0) (ms2 := 0) dX9_probate_8 cw9_80 (by decide) rfl rfl (Nat.le_of_ble_eq_true rfl) rfl rfl kd_1 ⟨_, _, rfl⟩ (by decide) (by omega) (ok_X7_readInto hw.other hn h240 I hlen hstep hend (fun k M' hI2 hx => ?_) hI)
  refine go_aload_n 0 dX9_probate_11 rfl rfl ?_
  refine go_getR (r := 1) dX9_probate_12 lk9_10.get kd_0 (by omega) rfl (pp_0_0 w) ?_
  refine gx_getI (v := (M' 1 4)) dX9_probate_15 lk9_84.get kd_1 (by omega) rfl (up2_ne (by omega)) ?_
  refine go_if_eq (tgt := 32) dX9_probate_18 rfl (fun c1 => ?_) (fun c1 => ?_)
  · have hf0 := (show M' 1 4 = 0 by omega)
    refine go_aload_n 0 dX9_probate_32 rfl rfl ?_
    refine go_getR (r := w) dX9_probate_33 lk9_19.get kd_0 (by omega) rfl (pp_0_1 w) ?_
    refine go_astore_n (lv' := [(1, vR w), (0, vR 0)]) dX9_probate_36 rfl (by decide) rfl ?_
    refine go_aload_n 1 dX9_probate_37 rfl rfl ?_
    refine go_aload_n 1 dX9_probate_38 rfl rfl ?_
    refine go_getR (r := (21 - w)) dX9_probate_39 lk9_23.get kd_0 (by omega) rfl (pp_0_2 w) ?_
    refine go_putR (r := (21 - w)) dX9_probate_42 (Or.inl lk9_19) rfl kd_0 (by omega) rfl (Or.inl rfl) ?_
    refine go_aload_n 1 dX9_probate_45 rfl rfl ?_
    refine go_aload_n 0 dX9_probate_46 rfl rfl ?_
    refine go_putR (r := w) dX9_probate_47 (Or.inl lk9_23) rfl kd_0 (by omega) rfl (Or.inl rfl) ?_
    refine go_eq (lv' := [(1, vR w), (0, vR 0)]) rfl rfl rfl (P' := PP (21 - w)) (PP_swap hw) rfl ?_
    exact pb_50 hw (hQ k M' hI2 hx (by omega))
  · have hrg := hF k M' hI2 hx (by omega)
    refine go_bipush dX9_probate_21 (by decide) (by decide) ?_
    refine go_aload_n 0 dX9_probate_23 rfl rfl ?_
    refine go_getR (r := 1) dX9_probate_24 lk9_10.get kd_0 (by omega) rfl (pp_0_0 w) ?_
    refine gx_getI (v := (M' 1 4)) dX9_probate_27 lk9_84.get kd_1 (by omega) rfl (up2_ne (by omega)) ?_
    refine gx_isub (v := ((-10) - (M' 1 4))) dX9_probate_30 rfl ⟨by omega, by omega⟩ ?_
    refine go_iret dX9_probate_31 rfl rfl ⟨_, rfl, ?_⟩
    exact hrg.2.2

