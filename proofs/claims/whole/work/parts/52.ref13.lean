/-! ===== the reference: the text read, probate ===== -/
def clF (T : Nat → Int) (n p : Nat) (md : Int) (L E Y : Nat) : Int := if (¬ (T p = 109 ∨ T p = 108 ∨ T p = 101 ∨ T p = 116) ∨ (¬ T p = 109 ∧ md < 0)) then 1 else if ((T p = 109 ∧ 0 ≤ md) ∨ (T p = 108 ∧ L = 12) ∨ (T p = 101 ∧ E = 5) ∨ (T p = 116 ∧ Y = 6)) then 3 else if ¬ bdF T n (p + 1) (T p) = 0 then bdF T n (p + 1) (T p) else if bdE T n (p + 1) (T p) < n ∧ T (bdE T n (p + 1) (T p)) = 59 then 0 else 1
def clP (T : Nat → Int) (n p : Nat) (md : Int) (L E Y : Nat) : Nat := if (¬ (T p = 109 ∨ T p = 108 ∨ T p = 101 ∨ T p = 116) ∨ (¬ T p = 109 ∧ md < 0)) then p else if ((T p = 109 ∧ 0 ≤ md) ∨ (T p = 108 ∧ L = 12) ∨ (T p = 101 ∧ E = 5) ∨ (T p = 116 ∧ Y = 6)) then p else if ¬ bdF T n (p + 1) (T p) = 0 then bdB T n (p + 1) (T p) else bdE T n (p + 1) (T p)
theorem bdF_in {T : Nat → Int} {n p : Nat} {c : Int} : 0 ≤ bdF T n p c ∧ bdF T n p c ≤ 2 := by
  have h1 := nF_in (T := T) (n := n) (p := p) (lo := 0) (hi := 99)
  have h2 := nF_in (T := T) (n := n) (p := p) (lo := 0) (hi := 4)
  have h3 := nF_in (T := T) (n := n) (p := p) (lo := 0) (hi := 9)
  have h4 := nF_in (T := T) (n := n) (p := numE T n p) (lo := 1) (hi := 20)
  have h5 := nF_in (T := T) (n := n) (p := numE T n p) (lo := 1) (hi := 9)
  have h6 := nF_in (T := T) (n := n) (p := posI T n p (tyL T n p)) (lo := 0) (hi := 4)
  unfold bdF
  split
  · exact h1
  · split
    · split <;> assumption
    · split
      · split <;> assumption
      · exact h6
theorem DS.any {M M' : inm} {T : Nat → Int} {n p L E Y L2 E2 Y2 : Nat} {c : Int} (h : DS M M' T n p c L E Y) (hL : c = 108 → L2 = L) (hE : c = 101 → E2 = E) (hY : c = 116 → Y2 = Y) : DS M M' T n p c L2 E2 Y2 := by
  obtain ⟨h1, h2, h3, h4, h5, h6, h7, h8, h9, h10, h11, h12, h13, h14⟩ := h
  refine ⟨h1, h2, h3, h4, ?_, ?_, ?_, fun j => ?_, fun j => ?_, fun j => ?_, fun j => ?_, fun j => ?_, fun j hj => ?_, fun e => ?_⟩
  · by_cases e : c = 108
    · rw [hL e]; exact h5
    · rw [if_neg e] at h5 ⊢; exact h5
  · by_cases e : c = 101
    · rw [hE e]; exact h6
    · rw [if_neg e] at h6 ⊢; exact h6
  · by_cases e : c = 116
    · rw [hY e]; exact h7
    · rw [if_neg e] at h7 ⊢; exact h7
  · by_cases e : c = 108
    · rw [hL e]; exact h8 j
    · have q := h8 j; rw [if_neg (by omega)] at q ⊢; exact q
  · by_cases e : c = 108
    · rw [hL e]; exact h9 j
    · have q := h9 j; rw [if_neg (by omega)] at q ⊢; exact q
  · by_cases e : c = 101
    · rw [hE e]; exact h10 j
    · have q := h10 j; rw [if_neg (by omega)] at q ⊢; exact q
  · by_cases e : c = 101
    · rw [hE e]; exact h11 j
    · have q := h11 j; rw [if_neg (by omega)] at q ⊢; exact q
  · by_cases e : c = 116
    · rw [hY e]; exact h12 j
    · have q := h12 j; rw [if_neg (by omega)] at q ⊢; exact q
  · exact h13 j (fun e => by rw [← hY e]; exact hj e)
  · rw [hY e]; exact h14 e
set_option maxHeartbeats 4000000 in
set_option maxRecDepth 100000 in
theorem ok_X10_takeClause {w n p L E Y : Nat} {md : Int} {T : Nat → Int} {M : inm} {Q : Int → Nat → rfm → inm → Prop} (hT : (fun j => M 290 j) = T) (hn : M 279 18 = (n : Int)) (hp : M 279 20 = (p : Int)) (h240 : n ≤ 240) (hpn : p ≤ n) (ht : ∀ j, j < n → 0 ≤ T j ∧ T j ≤ 255) (hmd : M 279 23 = md) (hL : M 279 24 = (L : Int) ∧ L ≤ 12) (hE : M 279 27 = (E : Int) ∧ E ≤ 5) (hY : M 279 30 = (Y : Int) ∧ Y ≤ 6) (hpl : p < n) (h32 : ¬ T p = 32) (gF : ¬ (clF T n p md L E Y) = 0 → ∀ M' : inm, Fr M M' → M' 279 19 = (((clP T n p md L E Y) : Nat) : Int) → Q (clF T n p md L E Y) 303 (PP w) M') (gS : (clF T n p md L E Y) = 0 → ∀ M2 : inm, DS (up2 M 279 20 ((p + 1 : Nat) : Int)) M2 T n (p + 1) (T p) L E Y → Q 0 303 (PP w) (up2 M2 279 20 ((bdE T n (p + 1) (T p) + 1 : Nat) : Int))) : OkI yX10_takeClause cX10_takeClause 4 4 0 0 (some .int) [vR 279] 303 (PP w) M Q := by
  refine OkI.of (by decide +kernel) (by decide +kernel) (Nat.le_of_ble_eq_true rfl) ?_
  refine go_eq (lv' := [(0, vR 279)]) rfl rfl rfl rfl rfl ?_
  have hsk : skp T n p = p := skp_no (fun h => h32 h.2)
  refine go_aload_n 0 dX10_takeClause_0 rfl rfl ?_
  refine go_callVI (av := []) (st := []) (a := 279) (mc2 := 0) (ms2 := 0) dX10_takeClause_1 cw10_104 (by decide) rfl rfl (Nat.le_of_ble_eq_true rfl) rfl rfl kd_279 ⟨_, _, rfl⟩ (by decide) (by omega) (here_T hT hn hp h240 hpn (fun q1 => ?_) (fun q0 => absurd (by rw [hsk]; exact hpl) q0))
  rw [hsk]
  refine go_istore_n (lv' := [(1, vI (T p)), (0, vR 279)]) dX10_takeClause_4 rfl (by decide) rfl ?_
  refine go_iload_n 0 dX10_takeClause_5 rfl rfl ?_
  refine go_bipush dX10_takeClause_6 (by decide) (by decide) ?_
  refine go_icmp_ne (tgt := 15) dX10_takeClause_8 rfl (fun c1 => ?_) (fun c1 => ?_)
  · refine go_iload_n 0 dX10_takeClause_15 rfl rfl ?_
    refine go_bipush dX10_takeClause_16 (by decide) (by decide) ?_
    refine go_icmp_ne (tgt := 25) dX10_takeClause_18 rfl (fun c2 => ?_) (fun c2 => ?_)
    · refine go_iload_n 0 dX10_takeClause_25 rfl rfl ?_
      refine go_bipush dX10_takeClause_26 (by decide) (by decide) ?_
      refine go_icmp_ne (tgt := 35) dX10_takeClause_28 rfl (fun c3 => ?_) (fun c3 => ?_)
      · refine go_iload_n 0 dX10_takeClause_35 rfl rfl ?_
        refine go_bipush dX10_takeClause_36 (by decide) (by decide) ?_
        refine go_icmp_ne (tgt := 45) dX10_takeClause_38 rfl (fun c4 => ?_) (fun c4 => ?_)
        · refine go_iconst dX10_takeClause_45 (by decide) ?_
          refine go_istore_n (lv' := [(2, vI (-1)), (1, vI (T p)), (0, vR 279)]) dX10_takeClause_46 rfl (by decide) rfl ?_
          refine go_iload_n 0 dX10_takeClause_47 rfl rfl ?_
          refine go_if_lt (tgt := 62) dX10_takeClause_48 rfl (fun c5 => ?_) (fun c5 => ?_)
          · refine go_aload_n 2 dX10_takeClause_62 rfl rfl ?_
            refine go_iconst dX10_takeClause_63 (by decide) ?_
            refine go_aload_n 2 dX10_takeClause_64 rfl rfl ?_
            refine gx_getI (v := ((p : Nat) : Int)) dX10_takeClause_65 lk10_101.get kd_279 (by omega) rfl up2_same ?_
            refine go_callVI (av := [vI 1, vI ((p : Nat) : Int)]) (st := []) (a := 279) (mc2 := 0) (ms2 := 0) dX10_takeClause_68 cw10_112 (by decide) rfl rfl (Nat.le_of_ble_eq_true rfl) rfl rfl kd_279 ⟨_, _, rfl⟩ (by decide) (by omega) (ok_X10_fails ?_)
            refine go_iret dX10_takeClause_71 rfl rfl ⟨_, rfl, ?_⟩
            have h1 : (clF T n p md L E Y) = 1 := if_pos (by omega)
            have h2 : (clP T n p md L E Y) = p := if_pos (by omega)
            rw [h1, h2] at gF
            exact gF (by decide) _ (((Fr.rf M).up (by omega)).up (by omega)) up2_same
          · exact absurd c5 (by decide)
        · refine go_iconst dX10_takeClause_41 (by decide) ?_
          refine go_goto (tgt := 46) dX10_takeClause_42 rfl ?_
          refine go_istore_n (lv' := [(2, vI 3), (1, vI (T p)), (0, vR 279)]) dX10_takeClause_46 rfl (by decide) rfl ?_
          refine go_iload_n 0 dX10_takeClause_47 rfl rfl ?_
          refine go_if_lt (tgt := 62) dX10_takeClause_48 rfl (fun c6 => ?_) (fun c6 => ?_)
          · exact absurd c6 (by decide)
          · refine go_iload_n 0 dX10_takeClause_51 rfl rfl ?_
            refine go_if_le (tgt := 72) dX10_takeClause_52 rfl (fun c7 => ?_) (fun c7 => ?_)
            · exact absurd c7 (by decide)
            · refine go_aload_n 2 dX10_takeClause_55 rfl rfl ?_
              refine gx_getI (v := md) dX10_takeClause_56 lk10_125.get kd_279 (by omega) rfl ((up2_ne (by omega)).trans hmd) ?_
              refine go_if_ge (tgt := 72) dX10_takeClause_59 rfl (fun c8 => ?_) (fun c8 => ?_)
              · refine go_aload_n 2 dX10_takeClause_72 rfl rfl ?_
                refine go_iload_n 0 dX10_takeClause_73 rfl rfl ?_
                refine go_callVI (av := [vI 3]) (st := []) (a := 279) (mc2 := 0) (ms2 := 0) dX10_takeClause_74 cw10_149 (by decide) rfl rfl (Nat.le_of_ble_eq_true rfl) rfl rfl kd_279 ⟨_, _, rfl⟩ (by decide) (by omega) (ok_X10_isFull ?_)
                rw [show rFull (up2 M 279 20 ((p : Nat) : Int)) 3 = (if (Y : Int) = 6 then (1 : Int) else 0) by unfold rFull; rw [if_neg (by decide), if_neg (by decide), if_neg (by decide)]; rw [show (up2 M 279 20 ((p : Nat) : Int)) 279 30 = _ from (up2_ne (by omega)).trans hY.1]]
                have fu9 : (if (Y : Int) = 6 then (1 : Int) else 0) = 0 ∨ (if (Y : Int) = 6 then (1 : Int) else 0) = 1 := by split <;> omega
                refine go_if_eq (tgt := 90) dX10_takeClause_77 rfl (fun c10 => ?_) (fun c10 => ?_)
                · refine go_aload_n 2 dX10_takeClause_90 rfl rfl ?_
                  refine go_dup dX10_takeClause_91 rfl ?_
                  refine gx_getI (v := ((p : Nat) : Int)) dX10_takeClause_92 lk10_101.get kd_279 (by omega) rfl up2_same ?_
                  refine go_iconst dX10_takeClause_95 (by decide) ?_
                  refine gx_iadd (v := ((p + 1 : Nat) : Int)) dX10_takeClause_96 (by omega) ⟨by omega, by omega⟩ ?_
                  refine go_putI dX10_takeClause_97 (Or.inl lk10_101) kd_279 (by omega) rfl (Or.inl rfl) ?_
                  refine go_m (M' := (up2 M 279 20 ((p + 1 : Nat) : Int))) up2_up ?_
                  refine go_aload_n 2 dX10_takeClause_100 rfl rfl ?_
                  refine go_iload_n 0 dX10_takeClause_101 rfl rfl ?_
                  refine go_callVI (av := [vI 3]) (st := []) (a := 279) (mc2 := 0) (ms2 := 0) dX10_takeClause_102 cw10_153 (by decide) rfl rfl (Nat.le_of_ble_eq_true rfl) rfl rfl kd_279 ⟨_, _, rfl⟩ (by decide) (by omega) (ok_X10_takeBody_3 (n := n) (p := p + 1) (T := T) (M := (up2 M 279 20 ((p + 1 : Nat) : Int))) ((funext (fun j => up2_ne (by omega))).trans hT) ((up2_ne (by omega)).trans hn) up2_same h240 (by omega) ht (Y := Y) ⟨(up2_ne (by omega)).trans hY.1, by omega⟩ (fun hf M2 a b => ?_) (fun hf M2 d => ?_))
                  · have hbi := bdF_in (T := T) (n := n) (p := p + 1) (c := 116)
                    refine go_istore_n (lv' := [(3, vI (bdF T n (p + 1) 116)), (2, vI 3), (1, vI (T p)), (0, vR 279)]) dX10_takeClause_105 rfl (by decide) rfl ?_
                    refine go_iload_n 0 dX10_takeClause_106 rfl rfl ?_
                    refine go_if_le (tgt := 112) dX10_takeClause_107 rfl (fun c71 => ?_) (fun c71 => ?_)
                    · exact absurd c71 (by omega)
                    · refine go_iload_n 0 dX10_takeClause_110 rfl rfl ?_
                      refine go_iret dX10_takeClause_111 rfl rfl ⟨_, rfl, ?_⟩
                      have hc : T p = 116 := by omega
                      have hful : ¬ ((T p = 109 ∧ 0 ≤ md) ∨ (T p = 108 ∧ L = 12) ∨ (T p = 101 ∧ E = 5) ∨ (T p = 116 ∧ Y = 6)) := by clear gF gS; (repeat split at *) <;> omega
                      have hbad : ¬ (¬ (T p = 109 ∨ T p = 108 ∨ T p = 101 ∨ T p = 116) ∨ (¬ T p = 109 ∧ md < 0)) := by omega
                      have hbf : ¬ bdF T n (p + 1) (T p) = 0 := by rw [hc]; exact hf
                      have h1 : (clF T n p md L E Y) = bdF T n (p + 1) (T p) := (if_neg hbad).trans ((if_neg hful).trans (if_pos hbf))
                      have h2 : (clP T n p md L E Y) = bdB T n (p + 1) (T p) := (if_neg hbad).trans ((if_neg hful).trans (if_pos hbf))
                      rw [h1, h2, hc] at gF
                      exact gF hf _ (((Fr.rf M).up (by omega)).trans a) b
                  · obtain ⟨q, hq20, hqn, hqs⟩ := d.2.2.1
                    have hsi := skp_in (T := T) hqn
                    refine go_istore_n (lv' := [(3, vI 0), (2, vI 3), (1, vI (T p)), (0, vR 279)]) dX10_takeClause_105 rfl (by decide) rfl ?_
                    refine go_iload_n 0 dX10_takeClause_106 rfl rfl ?_
                    refine go_if_le (tgt := 112) dX10_takeClause_107 rfl (fun c72 => ?_) (fun c72 => ?_)
                    · refine go_aload_n 3 dX10_takeClause_112 rfl rfl ?_
                      refine go_callVI (av := []) (st := []) (a := 279) (mc2 := 0) (ms2 := 0) dX10_takeClause_113 cw10_104 (by decide) rfl rfl (Nat.le_of_ble_eq_true rfl) rfl rfl kd_279 ⟨_, _, rfl⟩ (by decide) (by omega) (here_T (n := n) (p := q) (T := T) (M := M2) ((funext (fun j => (d.1 _ _ (by omega) (by omega)).trans (up2_ne (by omega)))).trans hT) (((d.1 _ _ (by omega) (by omega)).trans ((up2_ne (by omega)).trans hn))) hq20 h240 hqn (fun q1 => ?_) (fun q0 => ?_))
                      · skip
                        refine go_bipush dX10_takeClause_116 (by decide) (by decide) ?_
                        refine go_icmp_eq (tgt := 131) dX10_takeClause_118 rfl (fun c73 => ?_) (fun c73 => ?_)
                        · refine go_aload_n 3 dX10_takeClause_131 rfl rfl ?_
                          refine go_dup dX10_takeClause_132 rfl ?_
                          refine gx_getI (v := ((skp T n q : Nat) : Int)) dX10_takeClause_133 lk10_101.get kd_279 (by omega) rfl up2_same ?_
                          refine go_iconst dX10_takeClause_136 (by decide) ?_
                          refine gx_iadd (v := ((skp T n q + 1 : Nat) : Int)) dX10_takeClause_137 (by omega) ⟨by omega, by omega⟩ ?_
                          refine go_putI dX10_takeClause_138 (Or.inl lk10_101) kd_279 (by omega) rfl (Or.inl rfl) ?_
                          refine go_iconst dX10_takeClause_141 (by decide) ?_
                          refine go_iret dX10_takeClause_142 rfl rfl ⟨_, rfl, ?_⟩
                          have hc : T p = 116 := by omega
                          have hful : ¬ ((T p = 109 ∧ 0 ≤ md) ∨ (T p = 108 ∧ L = 12) ∨ (T p = 101 ∧ E = 5) ∨ (T p = 116 ∧ Y = 6)) := by clear gF gS; (repeat split at *) <;> omega
                          have hbad : ¬ (¬ (T p = 109 ∨ T p = 108 ∨ T p = 101 ∨ T p = 116) ∨ (¬ T p = 109 ∧ md < 0)) := by omega
                          have hbf : ¬ ¬ bdF T n (p + 1) (T p) = 0 := by rw [hc]; exact fun x => x hf
                          have hqs2 : skp T n q = bdE T n (p + 1) (T p) := by rw [hc]; exact hqs
                          have hns : bdE T n (p + 1) (T p) < n ∧ T (bdE T n (p + 1) (T p)) = 59 := by rw [← hqs2]; omega
                          have h1 : (clF T n p md L E Y) = 0 := (if_neg hbad).trans ((if_neg hful).trans ((if_neg hbf).trans (if_pos hns)))
                          have g := gS h1 M2 (by rw [hc]; exact d.any (by omega) (by omega) (by omega))
                          rw [← hqs2] at g
                          rw [up2_up]
                          exact g
                        · refine go_aload_n 3 dX10_takeClause_121 rfl rfl ?_
                          refine go_iconst dX10_takeClause_122 (by decide) ?_
                          refine go_aload_n 3 dX10_takeClause_123 rfl rfl ?_
                          refine gx_getI (v := ((skp T n q : Nat) : Int)) dX10_takeClause_124 lk10_101.get kd_279 (by omega) rfl up2_same ?_
                          refine go_callVI (av := [vI 1, vI ((skp T n q : Nat) : Int)]) (st := []) (a := 279) (mc2 := 0) (ms2 := 0) dX10_takeClause_127 cw10_112 (by decide) rfl rfl (Nat.le_of_ble_eq_true rfl) rfl rfl kd_279 ⟨_, _, rfl⟩ (by decide) (by omega) (ok_X10_fails ?_)
                          refine go_iret dX10_takeClause_130 rfl rfl ⟨_, rfl, ?_⟩
                          have hc : T p = 116 := by omega
                          have hful : ¬ ((T p = 109 ∧ 0 ≤ md) ∨ (T p = 108 ∧ L = 12) ∨ (T p = 101 ∧ E = 5) ∨ (T p = 116 ∧ Y = 6)) := by clear gF gS; (repeat split at *) <;> omega
                          have hbad : ¬ (¬ (T p = 109 ∨ T p = 108 ∨ T p = 101 ∨ T p = 116) ∨ (¬ T p = 109 ∧ md < 0)) := by omega
                          have hbf : ¬ ¬ bdF T n (p + 1) (T p) = 0 := by rw [hc]; exact fun x => x hf
                          have hqs2 : skp T n q = bdE T n (p + 1) (T p) := by rw [hc]; exact hqs
                          have hns : ¬ (bdE T n (p + 1) (T p) < n ∧ T (bdE T n (p + 1) (T p)) = 59) := by rw [← hqs2]; omega
                          have h1 : (clF T n p md L E Y) = 1 := (if_neg hbad).trans ((if_neg hful).trans ((if_neg hbf).trans (if_neg hns)))
                          have h2 : (clP T n p md L E Y) = bdE T n (p + 1) (T p) := (if_neg hbad).trans ((if_neg hful).trans (if_neg hbf))
                          rw [h1, h2, ← hqs2] at gF
                          exact gF (by decide) _ (((((Fr.rf M).up (by omega)).trans d.1).up (by omega)).up (by omega)) up2_same
                      · skip
                        refine go_bipush dX10_takeClause_116 (by decide) (by decide) ?_
                        refine go_icmp_eq (tgt := 131) dX10_takeClause_118 rfl (fun c74 => ?_) (fun c74 => ?_)
                        · exact absurd c74 (by decide)
                        · refine go_aload_n 3 dX10_takeClause_121 rfl rfl ?_
                          refine go_iconst dX10_takeClause_122 (by decide) ?_
                          refine go_aload_n 3 dX10_takeClause_123 rfl rfl ?_
                          refine gx_getI (v := ((skp T n q : Nat) : Int)) dX10_takeClause_124 lk10_101.get kd_279 (by omega) rfl up2_same ?_
                          refine go_callVI (av := [vI 1, vI ((skp T n q : Nat) : Int)]) (st := []) (a := 279) (mc2 := 0) (ms2 := 0) dX10_takeClause_127 cw10_112 (by decide) rfl rfl (Nat.le_of_ble_eq_true rfl) rfl rfl kd_279 ⟨_, _, rfl⟩ (by decide) (by omega) (ok_X10_fails ?_)
                          refine go_iret dX10_takeClause_130 rfl rfl ⟨_, rfl, ?_⟩
                          have hc : T p = 116 := by omega
                          have hful : ¬ ((T p = 109 ∧ 0 ≤ md) ∨ (T p = 108 ∧ L = 12) ∨ (T p = 101 ∧ E = 5) ∨ (T p = 116 ∧ Y = 6)) := by clear gF gS; (repeat split at *) <;> omega
                          have hbad : ¬ (¬ (T p = 109 ∨ T p = 108 ∨ T p = 101 ∨ T p = 116) ∨ (¬ T p = 109 ∧ md < 0)) := by omega
                          have hbf : ¬ ¬ bdF T n (p + 1) (T p) = 0 := by rw [hc]; exact fun x => x hf
                          have hqs2 : skp T n q = bdE T n (p + 1) (T p) := by rw [hc]; exact hqs
                          have hns : ¬ (bdE T n (p + 1) (T p) < n ∧ T (bdE T n (p + 1) (T p)) = 59) := by rw [← hqs2]; omega
                          have h1 : (clF T n p md L E Y) = 1 := (if_neg hbad).trans ((if_neg hful).trans ((if_neg hbf).trans (if_neg hns)))
                          have h2 : (clP T n p md L E Y) = bdE T n (p + 1) (T p) := (if_neg hbad).trans ((if_neg hful).trans (if_neg hbf))
                          rw [h1, h2, ← hqs2] at gF
                          exact gF (by decide) _ (((((Fr.rf M).up (by omega)).trans d.1).up (by omega)).up (by omega)) up2_same
                    · exact absurd c72 (by decide)
                · refine go_aload_n 2 dX10_takeClause_80 rfl rfl ?_
                  refine go_iconst dX10_takeClause_81 (by decide) ?_
                  refine go_aload_n 2 dX10_takeClause_82 rfl rfl ?_
                  refine gx_getI (v := ((p : Nat) : Int)) dX10_takeClause_83 lk10_101.get kd_279 (by omega) rfl up2_same ?_
                  refine go_callVI (av := [vI 3, vI ((p : Nat) : Int)]) (st := []) (a := 279) (mc2 := 0) (ms2 := 0) dX10_takeClause_86 cw10_112 (by decide) rfl rfl (Nat.le_of_ble_eq_true rfl) rfl rfl kd_279 ⟨_, _, rfl⟩ (by decide) (by omega) (ok_X10_fails ?_)
                  refine go_iret dX10_takeClause_89 rfl rfl ⟨_, rfl, ?_⟩
                  have hful : ((T p = 109 ∧ 0 ≤ md) ∨ (T p = 108 ∧ L = 12) ∨ (T p = 101 ∧ E = 5) ∨ (T p = 116 ∧ Y = 6)) := by clear gF gS; (repeat split at *) <;> omega
                  have h1 : (clF T n p md L E Y) = 3 := (if_neg (by omega)).trans (if_pos hful)
                  have h2 : (clP T n p md L E Y) = p := (if_neg (by omega)).trans (if_pos hful)
                  rw [h1, h2] at gF
                  exact gF (by decide) _ (((Fr.rf M).up (by omega)).up (by omega)) up2_same
              · refine go_aload_n 2 dX10_takeClause_62 rfl rfl ?_
                refine go_iconst dX10_takeClause_63 (by decide) ?_
                refine go_aload_n 2 dX10_takeClause_64 rfl rfl ?_
                refine gx_getI (v := ((p : Nat) : Int)) dX10_takeClause_65 lk10_101.get kd_279 (by omega) rfl up2_same ?_
                refine go_callVI (av := [vI 1, vI ((p : Nat) : Int)]) (st := []) (a := 279) (mc2 := 0) (ms2 := 0) dX10_takeClause_68 cw10_112 (by decide) rfl rfl (Nat.le_of_ble_eq_true rfl) rfl rfl kd_279 ⟨_, _, rfl⟩ (by decide) (by omega) (ok_X10_fails ?_)
                refine go_iret dX10_takeClause_71 rfl rfl ⟨_, rfl, ?_⟩
                have h1 : (clF T n p md L E Y) = 1 := if_pos (by omega)
                have h2 : (clP T n p md L E Y) = p := if_pos (by omega)
                rw [h1, h2] at gF
                exact gF (by decide) _ (((Fr.rf M).up (by omega)).up (by omega)) up2_same
      · refine go_iconst dX10_takeClause_31 (by decide) ?_
        refine go_goto (tgt := 46) dX10_takeClause_32 rfl ?_
        refine go_istore_n (lv' := [(2, vI 2), (1, vI (T p)), (0, vR 279)]) dX10_takeClause_46 rfl (by decide) rfl ?_
        refine go_iload_n 0 dX10_takeClause_47 rfl rfl ?_
        refine go_if_lt (tgt := 62) dX10_takeClause_48 rfl (fun c11 => ?_) (fun c11 => ?_)
        · exact absurd c11 (by decide)
        · refine go_iload_n 0 dX10_takeClause_51 rfl rfl ?_
          refine go_if_le (tgt := 72) dX10_takeClause_52 rfl (fun c12 => ?_) (fun c12 => ?_)
          · exact absurd c12 (by decide)
          · refine go_aload_n 2 dX10_takeClause_55 rfl rfl ?_
            refine gx_getI (v := md) dX10_takeClause_56 lk10_125.get kd_279 (by omega) rfl ((up2_ne (by omega)).trans hmd) ?_
            refine go_if_ge (tgt := 72) dX10_takeClause_59 rfl (fun c13 => ?_) (fun c13 => ?_)
            · refine go_aload_n 2 dX10_takeClause_72 rfl rfl ?_
              refine go_iload_n 0 dX10_takeClause_73 rfl rfl ?_
              refine go_callVI (av := [vI 2]) (st := []) (a := 279) (mc2 := 0) (ms2 := 0) dX10_takeClause_74 cw10_149 (by decide) rfl rfl (Nat.le_of_ble_eq_true rfl) rfl rfl kd_279 ⟨_, _, rfl⟩ (by decide) (by omega) (ok_X10_isFull ?_)
              rw [show rFull (up2 M 279 20 ((p : Nat) : Int)) 2 = (if (E : Int) = 5 then (1 : Int) else 0) by unfold rFull; rw [if_neg (by decide), if_neg (by decide), if_pos rfl]; rw [show (up2 M 279 20 ((p : Nat) : Int)) 279 27 = _ from (up2_ne (by omega)).trans hE.1]]
              have fu14 : (if (E : Int) = 5 then (1 : Int) else 0) = 0 ∨ (if (E : Int) = 5 then (1 : Int) else 0) = 1 := by split <;> omega
              refine go_if_eq (tgt := 90) dX10_takeClause_77 rfl (fun c15 => ?_) (fun c15 => ?_)
              · refine go_aload_n 2 dX10_takeClause_90 rfl rfl ?_
                refine go_dup dX10_takeClause_91 rfl ?_
                refine gx_getI (v := ((p : Nat) : Int)) dX10_takeClause_92 lk10_101.get kd_279 (by omega) rfl up2_same ?_
                refine go_iconst dX10_takeClause_95 (by decide) ?_
                refine gx_iadd (v := ((p + 1 : Nat) : Int)) dX10_takeClause_96 (by omega) ⟨by omega, by omega⟩ ?_
                refine go_putI dX10_takeClause_97 (Or.inl lk10_101) kd_279 (by omega) rfl (Or.inl rfl) ?_
                refine go_m (M' := (up2 M 279 20 ((p + 1 : Nat) : Int))) up2_up ?_
                refine go_aload_n 2 dX10_takeClause_100 rfl rfl ?_
                refine go_iload_n 0 dX10_takeClause_101 rfl rfl ?_
                refine go_callVI (av := [vI 2]) (st := []) (a := 279) (mc2 := 0) (ms2 := 0) dX10_takeClause_102 cw10_153 (by decide) rfl rfl (Nat.le_of_ble_eq_true rfl) rfl rfl kd_279 ⟨_, _, rfl⟩ (by decide) (by omega) (ok_X10_takeBody_2 (n := n) (p := p + 1) (T := T) (M := (up2 M 279 20 ((p + 1 : Nat) : Int))) ((funext (fun j => up2_ne (by omega))).trans hT) ((up2_ne (by omega)).trans hn) up2_same h240 (by omega) ht (E := E) ⟨(up2_ne (by omega)).trans hE.1, by omega⟩ (fun hf M2 a b => ?_) (fun hf M2 d => ?_))
                · have hbi := bdF_in (T := T) (n := n) (p := p + 1) (c := 101)
                  refine go_istore_n (lv' := [(3, vI (bdF T n (p + 1) 101)), (2, vI 2), (1, vI (T p)), (0, vR 279)]) dX10_takeClause_105 rfl (by decide) rfl ?_
                  refine go_iload_n 0 dX10_takeClause_106 rfl rfl ?_
                  refine go_if_le (tgt := 112) dX10_takeClause_107 rfl (fun c76 => ?_) (fun c76 => ?_)
                  · exact absurd c76 (by omega)
                  · refine go_iload_n 0 dX10_takeClause_110 rfl rfl ?_
                    refine go_iret dX10_takeClause_111 rfl rfl ⟨_, rfl, ?_⟩
                    have hc : T p = 101 := by omega
                    have hful : ¬ ((T p = 109 ∧ 0 ≤ md) ∨ (T p = 108 ∧ L = 12) ∨ (T p = 101 ∧ E = 5) ∨ (T p = 116 ∧ Y = 6)) := by clear gF gS; (repeat split at *) <;> omega
                    have hbad : ¬ (¬ (T p = 109 ∨ T p = 108 ∨ T p = 101 ∨ T p = 116) ∨ (¬ T p = 109 ∧ md < 0)) := by omega
                    have hbf : ¬ bdF T n (p + 1) (T p) = 0 := by rw [hc]; exact hf
                    have h1 : (clF T n p md L E Y) = bdF T n (p + 1) (T p) := (if_neg hbad).trans ((if_neg hful).trans (if_pos hbf))
                    have h2 : (clP T n p md L E Y) = bdB T n (p + 1) (T p) := (if_neg hbad).trans ((if_neg hful).trans (if_pos hbf))
                    rw [h1, h2, hc] at gF
                    exact gF hf _ (((Fr.rf M).up (by omega)).trans a) b
                · obtain ⟨q, hq20, hqn, hqs⟩ := d.2.2.1
                  have hsi := skp_in (T := T) hqn
                  refine go_istore_n (lv' := [(3, vI 0), (2, vI 2), (1, vI (T p)), (0, vR 279)]) dX10_takeClause_105 rfl (by decide) rfl ?_
                  refine go_iload_n 0 dX10_takeClause_106 rfl rfl ?_
                  refine go_if_le (tgt := 112) dX10_takeClause_107 rfl (fun c77 => ?_) (fun c77 => ?_)
                  · refine go_aload_n 3 dX10_takeClause_112 rfl rfl ?_
                    refine go_callVI (av := []) (st := []) (a := 279) (mc2 := 0) (ms2 := 0) dX10_takeClause_113 cw10_104 (by decide) rfl rfl (Nat.le_of_ble_eq_true rfl) rfl rfl kd_279 ⟨_, _, rfl⟩ (by decide) (by omega) (here_T (n := n) (p := q) (T := T) (M := M2) ((funext (fun j => (d.1 _ _ (by omega) (by omega)).trans (up2_ne (by omega)))).trans hT) (((d.1 _ _ (by omega) (by omega)).trans ((up2_ne (by omega)).trans hn))) hq20 h240 hqn (fun q1 => ?_) (fun q0 => ?_))
                    · skip
                      refine go_bipush dX10_takeClause_116 (by decide) (by decide) ?_
                      refine go_icmp_eq (tgt := 131) dX10_takeClause_118 rfl (fun c78 => ?_) (fun c78 => ?_)
                      · refine go_aload_n 3 dX10_takeClause_131 rfl rfl ?_
                        refine go_dup dX10_takeClause_132 rfl ?_
                        refine gx_getI (v := ((skp T n q : Nat) : Int)) dX10_takeClause_133 lk10_101.get kd_279 (by omega) rfl up2_same ?_
                        refine go_iconst dX10_takeClause_136 (by decide) ?_
                        refine gx_iadd (v := ((skp T n q + 1 : Nat) : Int)) dX10_takeClause_137 (by omega) ⟨by omega, by omega⟩ ?_
                        refine go_putI dX10_takeClause_138 (Or.inl lk10_101) kd_279 (by omega) rfl (Or.inl rfl) ?_
                        refine go_iconst dX10_takeClause_141 (by decide) ?_
                        refine go_iret dX10_takeClause_142 rfl rfl ⟨_, rfl, ?_⟩
                        have hc : T p = 101 := by omega
                        have hful : ¬ ((T p = 109 ∧ 0 ≤ md) ∨ (T p = 108 ∧ L = 12) ∨ (T p = 101 ∧ E = 5) ∨ (T p = 116 ∧ Y = 6)) := by clear gF gS; (repeat split at *) <;> omega
                        have hbad : ¬ (¬ (T p = 109 ∨ T p = 108 ∨ T p = 101 ∨ T p = 116) ∨ (¬ T p = 109 ∧ md < 0)) := by omega
                        have hbf : ¬ ¬ bdF T n (p + 1) (T p) = 0 := by rw [hc]; exact fun x => x hf
                        have hqs2 : skp T n q = bdE T n (p + 1) (T p) := by rw [hc]; exact hqs
                        have hns : bdE T n (p + 1) (T p) < n ∧ T (bdE T n (p + 1) (T p)) = 59 := by rw [← hqs2]; omega
                        have h1 : (clF T n p md L E Y) = 0 := (if_neg hbad).trans ((if_neg hful).trans ((if_neg hbf).trans (if_pos hns)))
                        have g := gS h1 M2 (by rw [hc]; exact d.any (by omega) (by omega) (by omega))
                        rw [← hqs2] at g
                        rw [up2_up]
                        exact g
                      · refine go_aload_n 3 dX10_takeClause_121 rfl rfl ?_
                        refine go_iconst dX10_takeClause_122 (by decide) ?_
                        refine go_aload_n 3 dX10_takeClause_123 rfl rfl ?_
                        refine gx_getI (v := ((skp T n q : Nat) : Int)) dX10_takeClause_124 lk10_101.get kd_279 (by omega) rfl up2_same ?_
                        refine go_callVI (av := [vI 1, vI ((skp T n q : Nat) : Int)]) (st := []) (a := 279) (mc2 := 0) (ms2 := 0) dX10_takeClause_127 cw10_112 (by decide) rfl rfl (Nat.le_of_ble_eq_true rfl) rfl rfl kd_279 ⟨_, _, rfl⟩ (by decide) (by omega) (ok_X10_fails ?_)
                        refine go_iret dX10_takeClause_130 rfl rfl ⟨_, rfl, ?_⟩
                        have hc : T p = 101 := by omega
                        have hful : ¬ ((T p = 109 ∧ 0 ≤ md) ∨ (T p = 108 ∧ L = 12) ∨ (T p = 101 ∧ E = 5) ∨ (T p = 116 ∧ Y = 6)) := by clear gF gS; (repeat split at *) <;> omega
                        have hbad : ¬ (¬ (T p = 109 ∨ T p = 108 ∨ T p = 101 ∨ T p = 116) ∨ (¬ T p = 109 ∧ md < 0)) := by omega
                        have hbf : ¬ ¬ bdF T n (p + 1) (T p) = 0 := by rw [hc]; exact fun x => x hf
                        have hqs2 : skp T n q = bdE T n (p + 1) (T p) := by rw [hc]; exact hqs
                        have hns : ¬ (bdE T n (p + 1) (T p) < n ∧ T (bdE T n (p + 1) (T p)) = 59) := by rw [← hqs2]; omega
                        have h1 : (clF T n p md L E Y) = 1 := (if_neg hbad).trans ((if_neg hful).trans ((if_neg hbf).trans (if_neg hns)))
                        have h2 : (clP T n p md L E Y) = bdE T n (p + 1) (T p) := (if_neg hbad).trans ((if_neg hful).trans (if_neg hbf))
                        rw [h1, h2, ← hqs2] at gF
                        exact gF (by decide) _ (((((Fr.rf M).up (by omega)).trans d.1).up (by omega)).up (by omega)) up2_same
                    · skip
                      refine go_bipush dX10_takeClause_116 (by decide) (by decide) ?_
                      refine go_icmp_eq (tgt := 131) dX10_takeClause_118 rfl (fun c79 => ?_) (fun c79 => ?_)
                      · exact absurd c79 (by decide)
                      · refine go_aload_n 3 dX10_takeClause_121 rfl rfl ?_
                        refine go_iconst dX10_takeClause_122 (by decide) ?_
                        refine go_aload_n 3 dX10_takeClause_123 rfl rfl ?_
                        refine gx_getI (v := ((skp T n q : Nat) : Int)) dX10_takeClause_124 lk10_101.get kd_279 (by omega) rfl up2_same ?_
                        refine go_callVI (av := [vI 1, vI ((skp T n q : Nat) : Int)]) (st := []) (a := 279) (mc2 := 0) (ms2 := 0) dX10_takeClause_127 cw10_112 (by decide) rfl rfl (Nat.le_of_ble_eq_true rfl) rfl rfl kd_279 ⟨_, _, rfl⟩ (by decide) (by omega) (ok_X10_fails ?_)
                        refine go_iret dX10_takeClause_130 rfl rfl ⟨_, rfl, ?_⟩
                        have hc : T p = 101 := by omega
                        have hful : ¬ ((T p = 109 ∧ 0 ≤ md) ∨ (T p = 108 ∧ L = 12) ∨ (T p = 101 ∧ E = 5) ∨ (T p = 116 ∧ Y = 6)) := by clear gF gS; (repeat split at *) <;> omega
                        have hbad : ¬ (¬ (T p = 109 ∨ T p = 108 ∨ T p = 101 ∨ T p = 116) ∨ (¬ T p = 109 ∧ md < 0)) := by omega
                        have hbf : ¬ ¬ bdF T n (p + 1) (T p) = 0 := by rw [hc]; exact fun x => x hf
                        have hqs2 : skp T n q = bdE T n (p + 1) (T p) := by rw [hc]; exact hqs
                        have hns : ¬ (bdE T n (p + 1) (T p) < n ∧ T (bdE T n (p + 1) (T p)) = 59) := by rw [← hqs2]; omega
                        have h1 : (clF T n p md L E Y) = 1 := (if_neg hbad).trans ((if_neg hful).trans ((if_neg hbf).trans (if_neg hns)))
                        have h2 : (clP T n p md L E Y) = bdE T n (p + 1) (T p) := (if_neg hbad).trans ((if_neg hful).trans (if_neg hbf))
                        rw [h1, h2, ← hqs2] at gF
                        exact gF (by decide) _ (((((Fr.rf M).up (by omega)).trans d.1).up (by omega)).up (by omega)) up2_same
                  · exact absurd c77 (by decide)
              · refine go_aload_n 2 dX10_takeClause_80 rfl rfl ?_
                refine go_iconst dX10_takeClause_81 (by decide) ?_
                refine go_aload_n 2 dX10_takeClause_82 rfl rfl ?_
                refine gx_getI (v := ((p : Nat) : Int)) dX10_takeClause_83 lk10_101.get kd_279 (by omega) rfl up2_same ?_
                refine go_callVI (av := [vI 3, vI ((p : Nat) : Int)]) (st := []) (a := 279) (mc2 := 0) (ms2 := 0) dX10_takeClause_86 cw10_112 (by decide) rfl rfl (Nat.le_of_ble_eq_true rfl) rfl rfl kd_279 ⟨_, _, rfl⟩ (by decide) (by omega) (ok_X10_fails ?_)
                refine go_iret dX10_takeClause_89 rfl rfl ⟨_, rfl, ?_⟩
                have hful : ((T p = 109 ∧ 0 ≤ md) ∨ (T p = 108 ∧ L = 12) ∨ (T p = 101 ∧ E = 5) ∨ (T p = 116 ∧ Y = 6)) := by clear gF gS; (repeat split at *) <;> omega
                have h1 : (clF T n p md L E Y) = 3 := (if_neg (by omega)).trans (if_pos hful)
                have h2 : (clP T n p md L E Y) = p := (if_neg (by omega)).trans (if_pos hful)
                rw [h1, h2] at gF
                exact gF (by decide) _ (((Fr.rf M).up (by omega)).up (by omega)) up2_same
            · refine go_aload_n 2 dX10_takeClause_62 rfl rfl ?_
              refine go_iconst dX10_takeClause_63 (by decide) ?_
              refine go_aload_n 2 dX10_takeClause_64 rfl rfl ?_
              refine gx_getI (v := ((p : Nat) : Int)) dX10_takeClause_65 lk10_101.get kd_279 (by omega) rfl up2_same ?_
              refine go_callVI (av := [vI 1, vI ((p : Nat) : Int)]) (st := []) (a := 279) (mc2 := 0) (ms2 := 0) dX10_takeClause_68 cw10_112 (by decide) rfl rfl (Nat.le_of_ble_eq_true rfl) rfl rfl kd_279 ⟨_, _, rfl⟩ (by decide) (by omega) (ok_X10_fails ?_)
              refine go_iret dX10_takeClause_71 rfl rfl ⟨_, rfl, ?_⟩
              have h1 : (clF T n p md L E Y) = 1 := if_pos (by omega)
              have h2 : (clP T n p md L E Y) = p := if_pos (by omega)
              rw [h1, h2] at gF
              exact gF (by decide) _ (((Fr.rf M).up (by omega)).up (by omega)) up2_same
    · refine go_iconst dX10_takeClause_21 (by decide) ?_
      refine go_goto (tgt := 46) dX10_takeClause_22 rfl ?_
      refine go_istore_n (lv' := [(2, vI 1), (1, vI (T p)), (0, vR 279)]) dX10_takeClause_46 rfl (by decide) rfl ?_
      refine go_iload_n 0 dX10_takeClause_47 rfl rfl ?_
      refine go_if_lt (tgt := 62) dX10_takeClause_48 rfl (fun c16 => ?_) (fun c16 => ?_)
      · exact absurd c16 (by decide)
      · refine go_iload_n 0 dX10_takeClause_51 rfl rfl ?_
        refine go_if_le (tgt := 72) dX10_takeClause_52 rfl (fun c17 => ?_) (fun c17 => ?_)
        · exact absurd c17 (by decide)
        · refine go_aload_n 2 dX10_takeClause_55 rfl rfl ?_
          refine gx_getI (v := md) dX10_takeClause_56 lk10_125.get kd_279 (by omega) rfl ((up2_ne (by omega)).trans hmd) ?_
          refine go_if_ge (tgt := 72) dX10_takeClause_59 rfl (fun c18 => ?_) (fun c18 => ?_)
          · refine go_aload_n 2 dX10_takeClause_72 rfl rfl ?_
            refine go_iload_n 0 dX10_takeClause_73 rfl rfl ?_
            refine go_callVI (av := [vI 1]) (st := []) (a := 279) (mc2 := 0) (ms2 := 0) dX10_takeClause_74 cw10_149 (by decide) rfl rfl (Nat.le_of_ble_eq_true rfl) rfl rfl kd_279 ⟨_, _, rfl⟩ (by decide) (by omega) (ok_X10_isFull ?_)
            rw [show rFull (up2 M 279 20 ((p : Nat) : Int)) 1 = (if (L : Int) = 12 then (1 : Int) else 0) by unfold rFull; rw [if_neg (by decide), if_pos rfl]; rw [show (up2 M 279 20 ((p : Nat) : Int)) 279 24 = _ from (up2_ne (by omega)).trans hL.1]]
            have fu19 : (if (L : Int) = 12 then (1 : Int) else 0) = 0 ∨ (if (L : Int) = 12 then (1 : Int) else 0) = 1 := by split <;> omega
            refine go_if_eq (tgt := 90) dX10_takeClause_77 rfl (fun c20 => ?_) (fun c20 => ?_)
            · refine go_aload_n 2 dX10_takeClause_90 rfl rfl ?_
              refine go_dup dX10_takeClause_91 rfl ?_
              refine gx_getI (v := ((p : Nat) : Int)) dX10_takeClause_92 lk10_101.get kd_279 (by omega) rfl up2_same ?_
              refine go_iconst dX10_takeClause_95 (by decide) ?_
              refine gx_iadd (v := ((p + 1 : Nat) : Int)) dX10_takeClause_96 (by omega) ⟨by omega, by omega⟩ ?_
              refine go_putI dX10_takeClause_97 (Or.inl lk10_101) kd_279 (by omega) rfl (Or.inl rfl) ?_
              refine go_m (M' := (up2 M 279 20 ((p + 1 : Nat) : Int))) up2_up ?_
              refine go_aload_n 2 dX10_takeClause_100 rfl rfl ?_
              refine go_iload_n 0 dX10_takeClause_101 rfl rfl ?_
              refine go_callVI (av := [vI 1]) (st := []) (a := 279) (mc2 := 0) (ms2 := 0) dX10_takeClause_102 cw10_153 (by decide) rfl rfl (Nat.le_of_ble_eq_true rfl) rfl rfl kd_279 ⟨_, _, rfl⟩ (by decide) (by omega) (ok_X10_takeBody_1 (n := n) (p := p + 1) (T := T) (M := (up2 M 279 20 ((p + 1 : Nat) : Int))) ((funext (fun j => up2_ne (by omega))).trans hT) ((up2_ne (by omega)).trans hn) up2_same h240 (by omega) ht (L := L) ⟨(up2_ne (by omega)).trans hL.1, by omega⟩ (fun hf M2 a b => ?_) (fun hf M2 d => ?_))
              · have hbi := bdF_in (T := T) (n := n) (p := p + 1) (c := 108)
                refine go_istore_n (lv' := [(3, vI (bdF T n (p + 1) 108)), (2, vI 1), (1, vI (T p)), (0, vR 279)]) dX10_takeClause_105 rfl (by decide) rfl ?_
                refine go_iload_n 0 dX10_takeClause_106 rfl rfl ?_
                refine go_if_le (tgt := 112) dX10_takeClause_107 rfl (fun c81 => ?_) (fun c81 => ?_)
                · exact absurd c81 (by omega)
                · refine go_iload_n 0 dX10_takeClause_110 rfl rfl ?_
                  refine go_iret dX10_takeClause_111 rfl rfl ⟨_, rfl, ?_⟩
                  have hc : T p = 108 := by omega
                  have hful : ¬ ((T p = 109 ∧ 0 ≤ md) ∨ (T p = 108 ∧ L = 12) ∨ (T p = 101 ∧ E = 5) ∨ (T p = 116 ∧ Y = 6)) := by clear gF gS; (repeat split at *) <;> omega
                  have hbad : ¬ (¬ (T p = 109 ∨ T p = 108 ∨ T p = 101 ∨ T p = 116) ∨ (¬ T p = 109 ∧ md < 0)) := by omega
                  have hbf : ¬ bdF T n (p + 1) (T p) = 0 := by rw [hc]; exact hf
                  have h1 : (clF T n p md L E Y) = bdF T n (p + 1) (T p) := (if_neg hbad).trans ((if_neg hful).trans (if_pos hbf))
                  have h2 : (clP T n p md L E Y) = bdB T n (p + 1) (T p) := (if_neg hbad).trans ((if_neg hful).trans (if_pos hbf))
                  rw [h1, h2, hc] at gF
                  exact gF hf _ (((Fr.rf M).up (by omega)).trans a) b
              · obtain ⟨q, hq20, hqn, hqs⟩ := d.2.2.1
                have hsi := skp_in (T := T) hqn
                refine go_istore_n (lv' := [(3, vI 0), (2, vI 1), (1, vI (T p)), (0, vR 279)]) dX10_takeClause_105 rfl (by decide) rfl ?_
                refine go_iload_n 0 dX10_takeClause_106 rfl rfl ?_
                refine go_if_le (tgt := 112) dX10_takeClause_107 rfl (fun c82 => ?_) (fun c82 => ?_)
                · refine go_aload_n 3 dX10_takeClause_112 rfl rfl ?_
                  refine go_callVI (av := []) (st := []) (a := 279) (mc2 := 0) (ms2 := 0) dX10_takeClause_113 cw10_104 (by decide) rfl rfl (Nat.le_of_ble_eq_true rfl) rfl rfl kd_279 ⟨_, _, rfl⟩ (by decide) (by omega) (here_T (n := n) (p := q) (T := T) (M := M2) ((funext (fun j => (d.1 _ _ (by omega) (by omega)).trans (up2_ne (by omega)))).trans hT) (((d.1 _ _ (by omega) (by omega)).trans ((up2_ne (by omega)).trans hn))) hq20 h240 hqn (fun q1 => ?_) (fun q0 => ?_))
                  · skip
                    refine go_bipush dX10_takeClause_116 (by decide) (by decide) ?_
                    refine go_icmp_eq (tgt := 131) dX10_takeClause_118 rfl (fun c83 => ?_) (fun c83 => ?_)
                    · refine go_aload_n 3 dX10_takeClause_131 rfl rfl ?_
                      refine go_dup dX10_takeClause_132 rfl ?_
                      refine gx_getI (v := ((skp T n q : Nat) : Int)) dX10_takeClause_133 lk10_101.get kd_279 (by omega) rfl up2_same ?_
                      refine go_iconst dX10_takeClause_136 (by decide) ?_
                      refine gx_iadd (v := ((skp T n q + 1 : Nat) : Int)) dX10_takeClause_137 (by omega) ⟨by omega, by omega⟩ ?_
                      refine go_putI dX10_takeClause_138 (Or.inl lk10_101) kd_279 (by omega) rfl (Or.inl rfl) ?_
                      refine go_iconst dX10_takeClause_141 (by decide) ?_
                      refine go_iret dX10_takeClause_142 rfl rfl ⟨_, rfl, ?_⟩
                      have hc : T p = 108 := by omega
                      have hful : ¬ ((T p = 109 ∧ 0 ≤ md) ∨ (T p = 108 ∧ L = 12) ∨ (T p = 101 ∧ E = 5) ∨ (T p = 116 ∧ Y = 6)) := by clear gF gS; (repeat split at *) <;> omega
                      have hbad : ¬ (¬ (T p = 109 ∨ T p = 108 ∨ T p = 101 ∨ T p = 116) ∨ (¬ T p = 109 ∧ md < 0)) := by omega
                      have hbf : ¬ ¬ bdF T n (p + 1) (T p) = 0 := by rw [hc]; exact fun x => x hf
                      have hqs2 : skp T n q = bdE T n (p + 1) (T p) := by rw [hc]; exact hqs
                      have hns : bdE T n (p + 1) (T p) < n ∧ T (bdE T n (p + 1) (T p)) = 59 := by rw [← hqs2]; omega
                      have h1 : (clF T n p md L E Y) = 0 := (if_neg hbad).trans ((if_neg hful).trans ((if_neg hbf).trans (if_pos hns)))
                      have g := gS h1 M2 (by rw [hc]; exact d.any (by omega) (by omega) (by omega))
                      rw [← hqs2] at g
                      rw [up2_up]
                      exact g
                    · refine go_aload_n 3 dX10_takeClause_121 rfl rfl ?_
                      refine go_iconst dX10_takeClause_122 (by decide) ?_
                      refine go_aload_n 3 dX10_takeClause_123 rfl rfl ?_
                      refine gx_getI (v := ((skp T n q : Nat) : Int)) dX10_takeClause_124 lk10_101.get kd_279 (by omega) rfl up2_same ?_
                      refine go_callVI (av := [vI 1, vI ((skp T n q : Nat) : Int)]) (st := []) (a := 279) (mc2 := 0) (ms2 := 0) dX10_takeClause_127 cw10_112 (by decide) rfl rfl (Nat.le_of_ble_eq_true rfl) rfl rfl kd_279 ⟨_, _, rfl⟩ (by decide) (by omega) (ok_X10_fails ?_)
                      refine go_iret dX10_takeClause_130 rfl rfl ⟨_, rfl, ?_⟩
                      have hc : T p = 108 := by omega
                      have hful : ¬ ((T p = 109 ∧ 0 ≤ md) ∨ (T p = 108 ∧ L = 12) ∨ (T p = 101 ∧ E = 5) ∨ (T p = 116 ∧ Y = 6)) := by clear gF gS; (repeat split at *) <;> omega
                      have hbad : ¬ (¬ (T p = 109 ∨ T p = 108 ∨ T p = 101 ∨ T p = 116) ∨ (¬ T p = 109 ∧ md < 0)) := by omega
                      have hbf : ¬ ¬ bdF T n (p + 1) (T p) = 0 := by rw [hc]; exact fun x => x hf
                      have hqs2 : skp T n q = bdE T n (p + 1) (T p) := by rw [hc]; exact hqs
                      have hns : ¬ (bdE T n (p + 1) (T p) < n ∧ T (bdE T n (p + 1) (T p)) = 59) := by rw [← hqs2]; omega
                      have h1 : (clF T n p md L E Y) = 1 := (if_neg hbad).trans ((if_neg hful).trans ((if_neg hbf).trans (if_neg hns)))
                      have h2 : (clP T n p md L E Y) = bdE T n (p + 1) (T p) := (if_neg hbad).trans ((if_neg hful).trans (if_neg hbf))
                      rw [h1, h2, ← hqs2] at gF
                      exact gF (by decide) _ (((((Fr.rf M).up (by omega)).trans d.1).up (by omega)).up (by omega)) up2_same
                  · skip
                    refine go_bipush dX10_takeClause_116 (by decide) (by decide) ?_
                    refine go_icmp_eq (tgt := 131) dX10_takeClause_118 rfl (fun c84 => ?_) (fun c84 => ?_)
                    · exact absurd c84 (by decide)
                    · refine go_aload_n 3 dX10_takeClause_121 rfl rfl ?_
                      refine go_iconst dX10_takeClause_122 (by decide) ?_
                      refine go_aload_n 3 dX10_takeClause_123 rfl rfl ?_
                      refine gx_getI (v := ((skp T n q : Nat) : Int)) dX10_takeClause_124 lk10_101.get kd_279 (by omega) rfl up2_same ?_
                      refine go_callVI (av := [vI 1, vI ((skp T n q : Nat) : Int)]) (st := []) (a := 279) (mc2 := 0) (ms2 := 0) dX10_takeClause_127 cw10_112 (by decide) rfl rfl (Nat.le_of_ble_eq_true rfl) rfl rfl kd_279 ⟨_, _, rfl⟩ (by decide) (by omega) (ok_X10_fails ?_)
                      refine go_iret dX10_takeClause_130 rfl rfl ⟨_, rfl, ?_⟩
                      have hc : T p = 108 := by omega
                      have hful : ¬ ((T p = 109 ∧ 0 ≤ md) ∨ (T p = 108 ∧ L = 12) ∨ (T p = 101 ∧ E = 5) ∨ (T p = 116 ∧ Y = 6)) := by clear gF gS; (repeat split at *) <;> omega
                      have hbad : ¬ (¬ (T p = 109 ∨ T p = 108 ∨ T p = 101 ∨ T p = 116) ∨ (¬ T p = 109 ∧ md < 0)) := by omega
                      have hbf : ¬ ¬ bdF T n (p + 1) (T p) = 0 := by rw [hc]; exact fun x => x hf
                      have hqs2 : skp T n q = bdE T n (p + 1) (T p) := by rw [hc]; exact hqs
                      have hns : ¬ (bdE T n (p + 1) (T p) < n ∧ T (bdE T n (p + 1) (T p)) = 59) := by rw [← hqs2]; omega
                      have h1 : (clF T n p md L E Y) = 1 := (if_neg hbad).trans ((if_neg hful).trans ((if_neg hbf).trans (if_neg hns)))
                      have h2 : (clP T n p md L E Y) = bdE T n (p + 1) (T p) := (if_neg hbad).trans ((if_neg hful).trans (if_neg hbf))
                      rw [h1, h2, ← hqs2] at gF
                      exact gF (by decide) _ (((((Fr.rf M).up (by omega)).trans d.1).up (by omega)).up (by omega)) up2_same
                · exact absurd c82 (by decide)
            · refine go_aload_n 2 dX10_takeClause_80 rfl rfl ?_
              refine go_iconst dX10_takeClause_81 (by decide) ?_
              refine go_aload_n 2 dX10_takeClause_82 rfl rfl ?_
              refine gx_getI (v := ((p : Nat) : Int)) dX10_takeClause_83 lk10_101.get kd_279 (by omega) rfl up2_same ?_
              refine go_callVI (av := [vI 3, vI ((p : Nat) : Int)]) (st := []) (a := 279) (mc2 := 0) (ms2 := 0) dX10_takeClause_86 cw10_112 (by decide) rfl rfl (Nat.le_of_ble_eq_true rfl) rfl rfl kd_279 ⟨_, _, rfl⟩ (by decide) (by omega) (ok_X10_fails ?_)
              refine go_iret dX10_takeClause_89 rfl rfl ⟨_, rfl, ?_⟩
              have hful : ((T p = 109 ∧ 0 ≤ md) ∨ (T p = 108 ∧ L = 12) ∨ (T p = 101 ∧ E = 5) ∨ (T p = 116 ∧ Y = 6)) := by clear gF gS; (repeat split at *) <;> omega
              have h1 : (clF T n p md L E Y) = 3 := (if_neg (by omega)).trans (if_pos hful)
              have h2 : (clP T n p md L E Y) = p := (if_neg (by omega)).trans (if_pos hful)
              rw [h1, h2] at gF
              exact gF (by decide) _ (((Fr.rf M).up (by omega)).up (by omega)) up2_same
          · refine go_aload_n 2 dX10_takeClause_62 rfl rfl ?_
            refine go_iconst dX10_takeClause_63 (by decide) ?_
            refine go_aload_n 2 dX10_takeClause_64 rfl rfl ?_
            refine gx_getI (v := ((p : Nat) : Int)) dX10_takeClause_65 lk10_101.get kd_279 (by omega) rfl up2_same ?_
            refine go_callVI (av := [vI 1, vI ((p : Nat) : Int)]) (st := []) (a := 279) (mc2 := 0) (ms2 := 0) dX10_takeClause_68 cw10_112 (by decide) rfl rfl (Nat.le_of_ble_eq_true rfl) rfl rfl kd_279 ⟨_, _, rfl⟩ (by decide) (by omega) (ok_X10_fails ?_)
            refine go_iret dX10_takeClause_71 rfl rfl ⟨_, rfl, ?_⟩
            have h1 : (clF T n p md L E Y) = 1 := if_pos (by omega)
            have h2 : (clP T n p md L E Y) = p := if_pos (by omega)
            rw [h1, h2] at gF
            exact gF (by decide) _ (((Fr.rf M).up (by omega)).up (by omega)) up2_same
  · refine go_iconst dX10_takeClause_11 (by decide) ?_
    refine go_goto (tgt := 46) dX10_takeClause_12 rfl ?_
    refine go_istore_n (lv' := [(2, vI 0), (1, vI (T p)), (0, vR 279)]) dX10_takeClause_46 rfl (by decide) rfl ?_
    refine go_iload_n 0 dX10_takeClause_47 rfl rfl ?_
    refine go_if_lt (tgt := 62) dX10_takeClause_48 rfl (fun c21 => ?_) (fun c21 => ?_)
    · exact absurd c21 (by decide)
    · refine go_iload_n 0 dX10_takeClause_51 rfl rfl ?_
      refine go_if_le (tgt := 72) dX10_takeClause_52 rfl (fun c22 => ?_) (fun c22 => ?_)
      · refine go_aload_n 2 dX10_takeClause_72 rfl rfl ?_
        refine go_iload_n 0 dX10_takeClause_73 rfl rfl ?_
        refine go_callVI (av := [vI 0]) (st := []) (a := 279) (mc2 := 0) (ms2 := 0) dX10_takeClause_74 cw10_149 (by decide) rfl rfl (Nat.le_of_ble_eq_true rfl) rfl rfl kd_279 ⟨_, _, rfl⟩ (by decide) (by omega) (ok_X10_isFull ?_)
        rw [show rFull (up2 M 279 20 ((p : Nat) : Int)) 0 = (if md < 0 then (0 : Int) else 1) by unfold rFull; rw [if_pos rfl]; rw [show (up2 M 279 20 ((p : Nat) : Int)) 279 23 = _ from (up2_ne (by omega)).trans hmd]]
        have fu23 : (if md < 0 then (0 : Int) else 1) = 0 ∨ (if md < 0 then (0 : Int) else 1) = 1 := by split <;> omega
        refine go_if_eq (tgt := 90) dX10_takeClause_77 rfl (fun c24 => ?_) (fun c24 => ?_)
        · refine go_aload_n 2 dX10_takeClause_90 rfl rfl ?_
          refine go_dup dX10_takeClause_91 rfl ?_
          refine gx_getI (v := ((p : Nat) : Int)) dX10_takeClause_92 lk10_101.get kd_279 (by omega) rfl up2_same ?_
          refine go_iconst dX10_takeClause_95 (by decide) ?_
          refine gx_iadd (v := ((p + 1 : Nat) : Int)) dX10_takeClause_96 (by omega) ⟨by omega, by omega⟩ ?_
          refine go_putI dX10_takeClause_97 (Or.inl lk10_101) kd_279 (by omega) rfl (Or.inl rfl) ?_
          refine go_m (M' := (up2 M 279 20 ((p + 1 : Nat) : Int))) up2_up ?_
          refine go_aload_n 2 dX10_takeClause_100 rfl rfl ?_
          refine go_iload_n 0 dX10_takeClause_101 rfl rfl ?_
          refine go_callVI (av := [vI 0]) (st := []) (a := 279) (mc2 := 0) (ms2 := 0) dX10_takeClause_102 cw10_153 (by decide) rfl rfl (Nat.le_of_ble_eq_true rfl) rfl rfl kd_279 ⟨_, _, rfl⟩ (by decide) (by omega) (ok_X10_takeBody_0 (n := n) (p := p + 1) (T := T) (M := (up2 M 279 20 ((p + 1 : Nat) : Int))) ((funext (fun j => up2_ne (by omega))).trans hT) ((up2_ne (by omega)).trans hn) up2_same h240 (by omega) ht (fun hf M2 a b => ?_) (fun hf M2 d => ?_))
          · have hbi := bdF_in (T := T) (n := n) (p := p + 1) (c := 109)
            refine go_istore_n (lv' := [(3, vI (bdF T n (p + 1) 109)), (2, vI 0), (1, vI (T p)), (0, vR 279)]) dX10_takeClause_105 rfl (by decide) rfl ?_
            refine go_iload_n 0 dX10_takeClause_106 rfl rfl ?_
            refine go_if_le (tgt := 112) dX10_takeClause_107 rfl (fun c85 => ?_) (fun c85 => ?_)
            · exact absurd c85 (by omega)
            · refine go_iload_n 0 dX10_takeClause_110 rfl rfl ?_
              refine go_iret dX10_takeClause_111 rfl rfl ⟨_, rfl, ?_⟩
              have hc : T p = 109 := by omega
              have hful : ¬ ((T p = 109 ∧ 0 ≤ md) ∨ (T p = 108 ∧ L = 12) ∨ (T p = 101 ∧ E = 5) ∨ (T p = 116 ∧ Y = 6)) := by clear gF gS; (repeat split at *) <;> omega
              have hbad : ¬ (¬ (T p = 109 ∨ T p = 108 ∨ T p = 101 ∨ T p = 116) ∨ (¬ T p = 109 ∧ md < 0)) := by omega
              have hbf : ¬ bdF T n (p + 1) (T p) = 0 := by rw [hc]; exact hf
              have h1 : (clF T n p md L E Y) = bdF T n (p + 1) (T p) := (if_neg hbad).trans ((if_neg hful).trans (if_pos hbf))
              have h2 : (clP T n p md L E Y) = bdB T n (p + 1) (T p) := (if_neg hbad).trans ((if_neg hful).trans (if_pos hbf))
              rw [h1, h2, hc] at gF
              exact gF hf _ (((Fr.rf M).up (by omega)).trans a) b
          · obtain ⟨q, hq20, hqn, hqs⟩ := d.2.2.1
            have hsi := skp_in (T := T) hqn
            refine go_istore_n (lv' := [(3, vI 0), (2, vI 0), (1, vI (T p)), (0, vR 279)]) dX10_takeClause_105 rfl (by decide) rfl ?_
            refine go_iload_n 0 dX10_takeClause_106 rfl rfl ?_
            refine go_if_le (tgt := 112) dX10_takeClause_107 rfl (fun c86 => ?_) (fun c86 => ?_)
            · refine go_aload_n 3 dX10_takeClause_112 rfl rfl ?_
              refine go_callVI (av := []) (st := []) (a := 279) (mc2 := 0) (ms2 := 0) dX10_takeClause_113 cw10_104 (by decide) rfl rfl (Nat.le_of_ble_eq_true rfl) rfl rfl kd_279 ⟨_, _, rfl⟩ (by decide) (by omega) (here_T (n := n) (p := q) (T := T) (M := M2) ((funext (fun j => (d.1 _ _ (by omega) (by omega)).trans (up2_ne (by omega)))).trans hT) (((d.1 _ _ (by omega) (by omega)).trans ((up2_ne (by omega)).trans hn))) hq20 h240 hqn (fun q1 => ?_) (fun q0 => ?_))
              · skip
                refine go_bipush dX10_takeClause_116 (by decide) (by decide) ?_
                refine go_icmp_eq (tgt := 131) dX10_takeClause_118 rfl (fun c87 => ?_) (fun c87 => ?_)
                · refine go_aload_n 3 dX10_takeClause_131 rfl rfl ?_
                  refine go_dup dX10_takeClause_132 rfl ?_
                  refine gx_getI (v := ((skp T n q : Nat) : Int)) dX10_takeClause_133 lk10_101.get kd_279 (by omega) rfl up2_same ?_
                  refine go_iconst dX10_takeClause_136 (by decide) ?_
                  refine gx_iadd (v := ((skp T n q + 1 : Nat) : Int)) dX10_takeClause_137 (by omega) ⟨by omega, by omega⟩ ?_
                  refine go_putI dX10_takeClause_138 (Or.inl lk10_101) kd_279 (by omega) rfl (Or.inl rfl) ?_
                  refine go_iconst dX10_takeClause_141 (by decide) ?_
                  refine go_iret dX10_takeClause_142 rfl rfl ⟨_, rfl, ?_⟩
                  have hc : T p = 109 := by omega
                  have hful : ¬ ((T p = 109 ∧ 0 ≤ md) ∨ (T p = 108 ∧ L = 12) ∨ (T p = 101 ∧ E = 5) ∨ (T p = 116 ∧ Y = 6)) := by clear gF gS; (repeat split at *) <;> omega
                  have hbad : ¬ (¬ (T p = 109 ∨ T p = 108 ∨ T p = 101 ∨ T p = 116) ∨ (¬ T p = 109 ∧ md < 0)) := by omega
                  have hbf : ¬ ¬ bdF T n (p + 1) (T p) = 0 := by rw [hc]; exact fun x => x hf
                  have hqs2 : skp T n q = bdE T n (p + 1) (T p) := by rw [hc]; exact hqs
                  have hns : bdE T n (p + 1) (T p) < n ∧ T (bdE T n (p + 1) (T p)) = 59 := by rw [← hqs2]; omega
                  have h1 : (clF T n p md L E Y) = 0 := (if_neg hbad).trans ((if_neg hful).trans ((if_neg hbf).trans (if_pos hns)))
                  have g := gS h1 M2 (by rw [hc]; exact d.any (by omega) (by omega) (by omega))
                  rw [← hqs2] at g
                  rw [up2_up]
                  exact g
                · refine go_aload_n 3 dX10_takeClause_121 rfl rfl ?_
                  refine go_iconst dX10_takeClause_122 (by decide) ?_
                  refine go_aload_n 3 dX10_takeClause_123 rfl rfl ?_
                  refine gx_getI (v := ((skp T n q : Nat) : Int)) dX10_takeClause_124 lk10_101.get kd_279 (by omega) rfl up2_same ?_
                  refine go_callVI (av := [vI 1, vI ((skp T n q : Nat) : Int)]) (st := []) (a := 279) (mc2 := 0) (ms2 := 0) dX10_takeClause_127 cw10_112 (by decide) rfl rfl (Nat.le_of_ble_eq_true rfl) rfl rfl kd_279 ⟨_, _, rfl⟩ (by decide) (by omega) (ok_X10_fails ?_)
                  refine go_iret dX10_takeClause_130 rfl rfl ⟨_, rfl, ?_⟩
                  have hc : T p = 109 := by omega
                  have hful : ¬ ((T p = 109 ∧ 0 ≤ md) ∨ (T p = 108 ∧ L = 12) ∨ (T p = 101 ∧ E = 5) ∨ (T p = 116 ∧ Y = 6)) := by clear gF gS; (repeat split at *) <;> omega
                  have hbad : ¬ (¬ (T p = 109 ∨ T p = 108 ∨ T p = 101 ∨ T p = 116) ∨ (¬ T p = 109 ∧ md < 0)) := by omega
                  have hbf : ¬ ¬ bdF T n (p + 1) (T p) = 0 := by rw [hc]; exact fun x => x hf
                  have hqs2 : skp T n q = bdE T n (p + 1) (T p) := by rw [hc]; exact hqs
                  have hns : ¬ (bdE T n (p + 1) (T p) < n ∧ T (bdE T n (p + 1) (T p)) = 59) := by rw [← hqs2]; omega
                  have h1 : (clF T n p md L E Y) = 1 := (if_neg hbad).trans ((if_neg hful).trans ((if_neg hbf).trans (if_neg hns)))
                  have h2 : (clP T n p md L E Y) = bdE T n (p + 1) (T p) := (if_neg hbad).trans ((if_neg hful).trans (if_neg hbf))
                  rw [h1, h2, ← hqs2] at gF
                  exact gF (by decide) _ (((((Fr.rf M).up (by omega)).trans d.1).up (by omega)).up (by omega)) up2_same
              · skip
                refine go_bipush dX10_takeClause_116 (by decide) (by decide) ?_
                refine go_icmp_eq (tgt := 131) dX10_takeClause_118 rfl (fun c88 => ?_) (fun c88 => ?_)
                · exact absurd c88 (by decide)
                · refine go_aload_n 3 dX10_takeClause_121 rfl rfl ?_
                  refine go_iconst dX10_takeClause_122 (by decide) ?_
                  refine go_aload_n 3 dX10_takeClause_123 rfl rfl ?_
                  refine gx_getI (v := ((skp T n q : Nat) : Int)) dX10_takeClause_124 lk10_101.get kd_279 (by omega) rfl up2_same ?_
                  refine go_callVI (av := [vI 1, vI ((skp T n q : Nat) : Int)]) (st := []) (a := 279) (mc2 := 0) (ms2 := 0) dX10_takeClause_127 cw10_112 (by decide) rfl rfl (Nat.le_of_ble_eq_true rfl) rfl rfl kd_279 ⟨_, _, rfl⟩ (by decide) (by omega) (ok_X10_fails ?_)
                  refine go_iret dX10_takeClause_130 rfl rfl ⟨_, rfl, ?_⟩
                  have hc : T p = 109 := by omega
                  have hful : ¬ ((T p = 109 ∧ 0 ≤ md) ∨ (T p = 108 ∧ L = 12) ∨ (T p = 101 ∧ E = 5) ∨ (T p = 116 ∧ Y = 6)) := by clear gF gS; (repeat split at *) <;> omega
                  have hbad : ¬ (¬ (T p = 109 ∨ T p = 108 ∨ T p = 101 ∨ T p = 116) ∨ (¬ T p = 109 ∧ md < 0)) := by omega
                  have hbf : ¬ ¬ bdF T n (p + 1) (T p) = 0 := by rw [hc]; exact fun x => x hf
                  have hqs2 : skp T n q = bdE T n (p + 1) (T p) := by rw [hc]; exact hqs
                  have hns : ¬ (bdE T n (p + 1) (T p) < n ∧ T (bdE T n (p + 1) (T p)) = 59) := by rw [← hqs2]; omega
                  have h1 : (clF T n p md L E Y) = 1 := (if_neg hbad).trans ((if_neg hful).trans ((if_neg hbf).trans (if_neg hns)))
                  have h2 : (clP T n p md L E Y) = bdE T n (p + 1) (T p) := (if_neg hbad).trans ((if_neg hful).trans (if_neg hbf))
                  rw [h1, h2, ← hqs2] at gF
                  exact gF (by decide) _ (((((Fr.rf M).up (by omega)).trans d.1).up (by omega)).up (by omega)) up2_same
            · exact absurd c86 (by decide)
        · refine go_aload_n 2 dX10_takeClause_80 rfl rfl ?_
          refine go_iconst dX10_takeClause_81 (by decide) ?_
          refine go_aload_n 2 dX10_takeClause_82 rfl rfl ?_
          refine gx_getI (v := ((p : Nat) : Int)) dX10_takeClause_83 lk10_101.get kd_279 (by omega) rfl up2_same ?_
          refine go_callVI (av := [vI 3, vI ((p : Nat) : Int)]) (st := []) (a := 279) (mc2 := 0) (ms2 := 0) dX10_takeClause_86 cw10_112 (by decide) rfl rfl (Nat.le_of_ble_eq_true rfl) rfl rfl kd_279 ⟨_, _, rfl⟩ (by decide) (by omega) (ok_X10_fails ?_)
          refine go_iret dX10_takeClause_89 rfl rfl ⟨_, rfl, ?_⟩
          have hful : ((T p = 109 ∧ 0 ≤ md) ∨ (T p = 108 ∧ L = 12) ∨ (T p = 101 ∧ E = 5) ∨ (T p = 116 ∧ Y = 6)) := by clear gF gS; (repeat split at *) <;> omega
          have h1 : (clF T n p md L E Y) = 3 := (if_neg (by omega)).trans (if_pos hful)
          have h2 : (clP T n p md L E Y) = p := (if_neg (by omega)).trans (if_pos hful)
          rw [h1, h2] at gF
          exact gF (by decide) _ (((Fr.rf M).up (by omega)).up (by omega)) up2_same
      · exact absurd c22 (by decide)

