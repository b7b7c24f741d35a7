/-! ===== Reader: numbers, clauses ===== -/
theorem mBlame_ne {M : inm} {f z : Int} {x j : Nat} (h : x ≠ 1 ∨ (j ≠ 4 ∧ j ≠ 5)) : mBlame M f z x j = M x j := by
  unfold mBlame
  split
  · rw [up2_ne (by omega), up2_ne (by omega)]
  · rfl
set_option maxHeartbeats 4000000 in
set_option maxRecDepth 100000 in
theorem rn_94 {w n p : Nat} {lo hi : Int} {M : inm} {Q : Int → Nat → rfm → inm → Prop} (hn : M 1 2 = (n : Int)) (hp : M 1 3 = (p : Int)) (h240 : n ≤ 240) (hpn : p ≤ n) (ht : ∀ j, j < n → 0 ≤ M 2 j ∧ M 2 j ≤ 255) (hQ : Q (numV M n p) 303 (PP w) (mNum M n p lo hi)) (k : Nat) (h1 : (skp (fun j => M 2 j) n p) + k ≤ n) (he : dig (fun j => M 2 j) n (skp (fun j => M 2 j) n p) = (skp (fun j => M 2 j) n p) + k) : Go S0 yX7_readNumber cX7_readNumber 5 1 0 0 (some .int) 94 [(4, vI (dv (fun j => M 2 j) (skp (fun j => M 2 j) n p) k)), (3, vI (((skp (fun j => M 2 j) n p) : Nat) : Int)), (0, vR 1), (1, vI lo), (2, vI hi)] [] 303 (PP w) (up2 M 1 3 (((skp (fun j => M 2 j) n p) + k : Nat) : Int)) (fun v n P M => ∃ z, v = some (vI z) ∧ Q z n P M) := by
  refine go_aload_n 2 dX7_readNumber_94 rfl rfl ?_
  refine gx_getI (v := (((skp (fun j => M 2 j) n p) + k : Nat) : Int)) dX7_readNumber_95 lk7_22.get kd_1 (by omega) rfl up2_same ?_
  refine go_iload_n 1 dX7_readNumber_98 rfl rfl ?_
  refine go_icmp_ne (tgt := 114) dX7_readNumber_99 rfl (fun c1 => ?_) (fun c1 => ?_)
  · refine go_aload_n 2 dX7_readNumber_114 rfl rfl ?_
    refine gx_getI (v := (((skp (fun j => M 2 j) n p) + k : Nat) : Int)) dX7_readNumber_115 lk7_22.get kd_1 (by omega) rfl up2_same ?_
    refine go_iload_n 1 dX7_readNumber_118 rfl rfl ?_
    refine gx_isub (v := ((k : Nat) : Int)) dX7_readNumber_119 (by omega) ⟨by omega, by omega⟩ ?_
    refine go_iconst dX7_readNumber_120 (by decide) ?_
    refine go_icmp_gt (tgt := 136) dX7_readNumber_121 rfl (fun c2 => ?_) (fun c2 => ?_)
    · refine go_aload_n 2 dX7_readNumber_136 rfl rfl ?_
      refine go_iconst dX7_readNumber_137 (by decide) ?_
      refine go_iload_n 1 dX7_readNumber_138 rfl rfl ?_
      refine go_callVV (av := [vI 2, vI (((skp (fun j => M 2 j) n p) : Nat) : Int)]) (st := []) (a := 1) (mc2 := 0) (ms2 := 0) dX7_readNumber_139 cw7_55 (by decide) rfl rfl (Nat.le_of_ble_eq_true rfl) rfl rfl kd_1 ⟨_, _, rfl⟩ (by decide) (by omega) (ok_X7_blame ?_)
      refine go_aload_n 2 dX7_readNumber_142 rfl rfl ?_
      refine go_callVV (av := []) (st := []) (a := 1) (mc2 := 0) (ms2 := 0) dX7_readNumber_143 cw7_37 (by decide) rfl rfl (Nat.le_of_ble_eq_true rfl) rfl rfl kd_1 ⟨_, _, rfl⟩ (by decide) (by omega) (ok_X7_skipBlanks (n := n) (p := (skp (fun j => M 2 j) n p) + k) (M := (mBlame (up2 M 1 3 (((skp (fun j => M 2 j) n p) + k : Nat) : Int)) 2 (((skp (fun j => M 2 j) n p) : Nat) : Int))) (((mBlame_ne (by omega))).trans (((up2_ne (by omega)).trans hn))) (((mBlame_ne (by omega))).trans up2_same) h240 (by omega) ?_)
      rw [show (fun j => (mBlame (up2 M 1 3 (((skp (fun j => M 2 j) n p) + k : Nat) : Int)) 2 (((skp (fun j => M 2 j) n p) : Nat) : Int)) 2 j) = (fun j => M 2 j) from funext (fun j => (((mBlame_ne (by omega))).trans ((up2_ne (by omega)))))]
      refine go_iload 0 dX7_readNumber_146 rfl ?_
      refine go_iret dX7_readNumber_148 rfl rfl ⟨_, rfl, ?_⟩
      rw [numV, mNum, he, show (skp (fun j => M 2 j) n p) + k - (skp (fun j => M 2 j) n p) = k by omega] at hQ
      first | (rw [show numF (fun j => M 2 j) (skp (fun j => M 2 j) n p) ((skp (fun j => M 2 j) n p) + k) lo hi = 0 by rw [numF, if_neg (by omega), show (skp (fun j => M 2 j) n p) + k - (skp (fun j => M 2 j) n p) = k by omega, if_neg (by omega)], if_pos rfl] at hQ; exact hQ) | (rw [show numF (fun j => M 2 j) (skp (fun j => M 2 j) n p) ((skp (fun j => M 2 j) n p) + k) lo hi = 2 by rw [numF, if_neg (by omega), show (skp (fun j => M 2 j) n p) + k - (skp (fun j => M 2 j) n p) = k by omega, if_pos (by omega)], if_neg (by decide)] at hQ; exact hQ) | (obtain rfl : k = 0 := (by omega); rw [show numF (fun j => M 2 j) (skp (fun j => M 2 j) n p) ((skp (fun j => M 2 j) n p) + 0) lo hi = 1 by rw [numF, if_pos (by omega)], if_neg (by decide)] at hQ; exact hQ)
    · refine go_iload 0 dX7_readNumber_124 rfl ?_
      refine go_iload_n 3 dX7_readNumber_126 rfl rfl ?_
      refine go_icmp_lt (tgt := 136) dX7_readNumber_127 rfl (fun c3 => ?_) (fun c3 => ?_)
      · refine go_aload_n 2 dX7_readNumber_136 rfl rfl ?_
        refine go_iconst dX7_readNumber_137 (by decide) ?_
        refine go_iload_n 1 dX7_readNumber_138 rfl rfl ?_
        refine go_callVV (av := [vI 2, vI (((skp (fun j => M 2 j) n p) : Nat) : Int)]) (st := []) (a := 1) (mc2 := 0) (ms2 := 0) dX7_readNumber_139 cw7_55 (by decide) rfl rfl (Nat.le_of_ble_eq_true rfl) rfl rfl kd_1 ⟨_, _, rfl⟩ (by decide) (by omega) (ok_X7_blame ?_)
        refine go_aload_n 2 dX7_readNumber_142 rfl rfl ?_
        refine go_callVV (av := []) (st := []) (a := 1) (mc2 := 0) (ms2 := 0) dX7_readNumber_143 cw7_37 (by decide) rfl rfl (Nat.le_of_ble_eq_true rfl) rfl rfl kd_1 ⟨_, _, rfl⟩ (by decide) (by omega) (ok_X7_skipBlanks (n := n) (p := (skp (fun j => M 2 j) n p) + k) (M := (mBlame (up2 M 1 3 (((skp (fun j => M 2 j) n p) + k : Nat) : Int)) 2 (((skp (fun j => M 2 j) n p) : Nat) : Int))) (((mBlame_ne (by omega))).trans (((up2_ne (by omega)).trans hn))) (((mBlame_ne (by omega))).trans up2_same) h240 (by omega) ?_)
        rw [show (fun j => (mBlame (up2 M 1 3 (((skp (fun j => M 2 j) n p) + k : Nat) : Int)) 2 (((skp (fun j => M 2 j) n p) : Nat) : Int)) 2 j) = (fun j => M 2 j) from funext (fun j => (((mBlame_ne (by omega))).trans ((up2_ne (by omega)))))]
        refine go_iload 0 dX7_readNumber_146 rfl ?_
        refine go_iret dX7_readNumber_148 rfl rfl ⟨_, rfl, ?_⟩
        rw [numV, mNum, he, show (skp (fun j => M 2 j) n p) + k - (skp (fun j => M 2 j) n p) = k by omega] at hQ
        first | (rw [show numF (fun j => M 2 j) (skp (fun j => M 2 j) n p) ((skp (fun j => M 2 j) n p) + k) lo hi = 0 by rw [numF, if_neg (by omega), show (skp (fun j => M 2 j) n p) + k - (skp (fun j => M 2 j) n p) = k by omega, if_neg (by omega)], if_pos rfl] at hQ; exact hQ) | (rw [show numF (fun j => M 2 j) (skp (fun j => M 2 j) n p) ((skp (fun j => M 2 j) n p) + k) lo hi = 2 by rw [numF, if_neg (by omega), show (skp (fun j => M 2 j) n p) + k - (skp (fun j => M 2 j) n p) = k by omega, if_pos (by omega)], if_neg (by decide)] at hQ; exact hQ) | (obtain rfl : k = 0 := (by omega); rw [show numF (fun j => M 2 j) (skp (fun j => M 2 j) n p) ((skp (fun j => M 2 j) n p) + 0) lo hi = 1 by rw [numF, if_pos (by omega)], if_neg (by decide)] at hQ; exact hQ)
      · refine go_iload 0 dX7_readNumber_130 rfl ?_
        refine go_iload_n 4 dX7_readNumber_132 rfl rfl ?_
        refine go_icmp_le (tgt := 142) dX7_readNumber_133 rfl (fun c4 => ?_) (fun c4 => ?_)
        · refine go_aload_n 2 dX7_readNumber_142 rfl rfl ?_
          refine go_callVV (av := []) (st := []) (a := 1) (mc2 := 0) (ms2 := 0) dX7_readNumber_143 cw7_37 (by decide) rfl rfl (Nat.le_of_ble_eq_true rfl) rfl rfl kd_1 ⟨_, _, rfl⟩ (by decide) (by omega) (ok_X7_skipBlanks (n := n) (p := (skp (fun j => M 2 j) n p) + k) (M := (up2 M 1 3 (((skp (fun j => M 2 j) n p) + k : Nat) : Int))) ((up2_ne (by omega)).trans hn) up2_same h240 (by omega) ?_)
          rw [show (fun j => (up2 M 1 3 (((skp (fun j => M 2 j) n p) + k : Nat) : Int)) 2 j) = (fun j => M 2 j) from funext (fun j => (up2_ne (by omega)))]
          refine go_iload 0 dX7_readNumber_146 rfl ?_
          refine go_iret dX7_readNumber_148 rfl rfl ⟨_, rfl, ?_⟩
          rw [numV, mNum, he, show (skp (fun j => M 2 j) n p) + k - (skp (fun j => M 2 j) n p) = k by omega] at hQ
          first | (rw [show numF (fun j => M 2 j) (skp (fun j => M 2 j) n p) ((skp (fun j => M 2 j) n p) + k) lo hi = 0 by rw [numF, if_neg (by omega), show (skp (fun j => M 2 j) n p) + k - (skp (fun j => M 2 j) n p) = k by omega, if_neg (by omega)], if_pos rfl] at hQ; exact hQ) | (rw [show numF (fun j => M 2 j) (skp (fun j => M 2 j) n p) ((skp (fun j => M 2 j) n p) + k) lo hi = 2 by rw [numF, if_neg (by omega), show (skp (fun j => M 2 j) n p) + k - (skp (fun j => M 2 j) n p) = k by omega, if_pos (by omega)], if_neg (by decide)] at hQ; exact hQ) | (obtain rfl : k = 0 := (by omega); rw [show numF (fun j => M 2 j) (skp (fun j => M 2 j) n p) ((skp (fun j => M 2 j) n p) + 0) lo hi = 1 by rw [numF, if_pos (by omega)], if_neg (by decide)] at hQ; exact hQ)
        · refine go_aload_n 2 dX7_readNumber_136 rfl rfl ?_
          refine go_iconst dX7_readNumber_137 (by decide) ?_
          refine go_iload_n 1 dX7_readNumber_138 rfl rfl ?_
          refine go_callVV (av := [vI 2, vI (((skp (fun j => M 2 j) n p) : Nat) : Int)]) (st := []) (a := 1) (mc2 := 0) (ms2 := 0) dX7_readNumber_139 cw7_55 (by decide) rfl rfl (Nat.le_of_ble_eq_true rfl) rfl rfl kd_1 ⟨_, _, rfl⟩ (by decide) (by omega) (ok_X7_blame ?_)
          refine go_aload_n 2 dX7_readNumber_142 rfl rfl ?_
          refine go_callVV (av := []) (st := []) (a := 1) (mc2 := 0) (ms2 := 0) dX7_readNumber_143 cw7_37 (by decide) rfl rfl (Nat.le_of_ble_eq_true rfl) rfl rfl kd_1 ⟨_, _, rfl⟩ (by decide) (by omega) (ok_X7_skipBlanks (n := n) (p := (skp (fun j => M 2 j) n p) + k) (M := (mBlame (up2 M 1 3 (((skp (fun j => M 2 j) n p) + k : Nat) : Int)) 2 (((skp (fun j => M 2 j) n p) : Nat) : Int))) (((mBlame_ne (by omega))).trans (((up2_ne (by omega)).trans hn))) (((mBlame_ne (by omega))).trans up2_same) h240 (by omega) ?_)
          rw [show (fun j => (mBlame (up2 M 1 3 (((skp (fun j => M 2 j) n p) + k : Nat) : Int)) 2 (((skp (fun j => M 2 j) n p) : Nat) : Int)) 2 j) = (fun j => M 2 j) from funext (fun j => (((mBlame_ne (by omega))).trans ((up2_ne (by omega)))))]
          refine go_iload 0 dX7_readNumber_146 rfl ?_
          refine go_iret dX7_readNumber_148 rfl rfl ⟨_, rfl, ?_⟩
          rw [numV, mNum, he, show (skp (fun j => M 2 j) n p) + k - (skp (fun j => M 2 j) n p) = k by omega] at hQ
          first | (rw [show numF (fun j => M 2 j) (skp (fun j => M 2 j) n p) ((skp (fun j => M 2 j) n p) + k) lo hi = 0 by rw [numF, if_neg (by omega), show (skp (fun j => M 2 j) n p) + k - (skp (fun j => M 2 j) n p) = k by omega, if_neg (by omega)], if_pos rfl] at hQ; exact hQ) | (rw [show numF (fun j => M 2 j) (skp (fun j => M 2 j) n p) ((skp (fun j => M 2 j) n p) + k) lo hi = 2 by rw [numF, if_neg (by omega), show (skp (fun j => M 2 j) n p) + k - (skp (fun j => M 2 j) n p) = k by omega, if_pos (by omega)], if_neg (by decide)] at hQ; exact hQ) | (obtain rfl : k = 0 := (by omega); rw [show numF (fun j => M 2 j) (skp (fun j => M 2 j) n p) ((skp (fun j => M 2 j) n p) + 0) lo hi = 1 by rw [numF, if_pos (by omega)], if_neg (by decide)] at hQ; exact hQ)
  · refine go_aload_n 2 dX7_readNumber_102 rfl rfl ?_
    refine go_iconst dX7_readNumber_103 (by decide) ?_
    refine go_aload_n 2 dX7_readNumber_104 rfl rfl ?_
    refine gx_getI (v := (((skp (fun j => M 2 j) n p) + k : Nat) : Int)) dX7_readNumber_105 lk7_22.get kd_1 (by omega) rfl up2_same ?_
    refine go_callVV (av := [vI 1, vI (((skp (fun j => M 2 j) n p) + k : Nat) : Int)]) (st := []) (a := 1) (mc2 := 0) (ms2 := 0) dX7_readNumber_108 cw7_55 (by decide) rfl rfl (Nat.le_of_ble_eq_true rfl) rfl rfl kd_1 ⟨_, _, rfl⟩ (by decide) (by omega) (ok_X7_blame ?_)
    refine go_goto (tgt := 142) dX7_readNumber_111 rfl ?_
    refine go_aload_n 2 dX7_readNumber_142 rfl rfl ?_
    refine go_callVV (av := []) (st := []) (a := 1) (mc2 := 0) (ms2 := 0) dX7_readNumber_143 cw7_37 (by decide) rfl rfl (Nat.le_of_ble_eq_true rfl) rfl rfl kd_1 ⟨_, _, rfl⟩ (by decide) (by omega) (ok_X7_skipBlanks (n := n) (p := (skp (fun j => M 2 j) n p) + k) (M := (mBlame (up2 M 1 3 (((skp (fun j => M 2 j) n p) + k : Nat) : Int)) 1 (((skp (fun j => M 2 j) n p) + k : Nat) : Int))) (((mBlame_ne (by omega))).trans (((up2_ne (by omega)).trans hn))) (((mBlame_ne (by omega))).trans up2_same) h240 (by omega) ?_)
    rw [show (fun j => (mBlame (up2 M 1 3 (((skp (fun j => M 2 j) n p) + k : Nat) : Int)) 1 (((skp (fun j => M 2 j) n p) + k : Nat) : Int)) 2 j) = (fun j => M 2 j) from funext (fun j => (((mBlame_ne (by omega))).trans ((up2_ne (by omega)))))]
    refine go_iload 0 dX7_readNumber_146 rfl ?_
    refine go_iret dX7_readNumber_148 rfl rfl ⟨_, rfl, ?_⟩
    rw [numV, mNum, he, show (skp (fun j => M 2 j) n p) + k - (skp (fun j => M 2 j) n p) = k by omega] at hQ
    first | (rw [show numF (fun j => M 2 j) (skp (fun j => M 2 j) n p) ((skp (fun j => M 2 j) n p) + k) lo hi = 0 by rw [numF, if_neg (by omega), show (skp (fun j => M 2 j) n p) + k - (skp (fun j => M 2 j) n p) = k by omega, if_neg (by omega)], if_pos rfl] at hQ; exact hQ) | (rw [show numF (fun j => M 2 j) (skp (fun j => M 2 j) n p) ((skp (fun j => M 2 j) n p) + k) lo hi = 2 by rw [numF, if_neg (by omega), show (skp (fun j => M 2 j) n p) + k - (skp (fun j => M 2 j) n p) = k by omega, if_pos (by omega)], if_neg (by decide)] at hQ; exact hQ) | (obtain rfl : k = 0 := (by omega); rw [show numF (fun j => M 2 j) (skp (fun j => M 2 j) n p) ((skp (fun j => M 2 j) n p) + 0) lo hi = 1 by rw [numF, if_pos (by omega)], if_neg (by decide)] at hQ; exact hQ)

set_option maxHeartbeats 4000000 in
set_option maxRecDepth 100000 in
theorem ok_X7_readNumber {w n p : Nat} {lo hi : Int} {M : inm} {Q : Int → Nat → rfm → inm → Prop} (hn : M 1 2 = (n : Int)) (hp : M 1 3 = (p : Int)) (h240 : n ≤ 240) (hpn : p ≤ n) (ht : ∀ j, j < n → 0 ≤ M 2 j ∧ M 2 j ≤ 255) (hQ : Q (numV M n p) 303 (PP w) (mNum M n p lo hi)) : OkI yX7_readNumber cX7_readNumber 5 1 0 0 (some .int) [vR 1, vI lo, vI hi] 303 (PP w) M Q := by
  refine OkI.of (by decide +kernel) (by decide +kernel) (Nat.le_of_ble_eq_true rfl) ?_
  refine go_eq (lv' := [(0, vR 1), (1, vI lo), (2, vI hi)]) rfl rfl rfl rfl rfl ?_
  have hb := skp_in (T := (fun j => M 2 j)) hpn
  refine go_aload_n 0 dX7_readNumber_0 rfl rfl ?_
  refine go_callVV (av := []) (st := []) (a := 1) (mc2 := 0) (ms2 := 0) dX7_readNumber_1 cw7_37 (by decide) rfl rfl (Nat.le_of_ble_eq_true rfl) rfl rfl kd_1 ⟨_, _, rfl⟩ (by decide) (by omega) (ok_X7_skipBlanks hn hp h240 hpn ?_)
  refine go_aload_n 0 dX7_readNumber_4 rfl rfl ?_
  refine gx_getI (v := (((skp (fun j => M 2 j) n p) : Nat) : Int)) dX7_readNumber_5 lk7_22.get kd_1 (by omega) rfl up2_same ?_
  refine go_istore_n (lv' := [(3, vI (((skp (fun j => M 2 j) n p) : Nat) : Int)), (0, vR 1), (1, vI lo), (2, vI hi)]) dX7_readNumber_8 rfl (by decide) rfl ?_
  refine go_iconst dX7_readNumber_9 (by decide) ?_
  refine go_istore (lv' := [(4, vI 0), (3, vI (((skp (fun j => M 2 j) n p) : Nat) : Int)), (0, vR 1), (1, vI lo), (2, vI hi)]) dX7_readNumber_10 (by decide) rfl ?_
  refine go_lv [0, 1, 2, 3, 4] rfl ?_
  refine go_eq (lv' := [(4, vI (dv (fun j => M 2 j) (skp (fun j => M 2 j) n p) 0)), (3, vI (((skp (fun j => M 2 j) n p) : Nat) : Int)), (0, vR 1), (1, vI lo), (2, vI hi)]) rfl rfl rfl rfl (M' := (up2 M 1 3 (((skp (fun j => M 2 j) n p) + 0 : Nat) : Int))) rfl ?_
  exact lp_X7_readNumber hn hp h240 hpn ht (fun k a1 a2 a3 a4 => rn_94 hn hp h240 hpn ht hQ k a1 a3) (n + 1) 0 (by omega) (by omega) (fun j hj => absurd hj (by omega)) rfl

