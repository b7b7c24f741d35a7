/-! ===== Reader: clauses, the text ===== -/
/-- where the rest of a clause ends -/
def rsP (M0 : inm) (n p : Nat) (c : Int) : Nat := if c = 109 then numP (fun j => M0 2 j) n p else if c = 108 ∨ c = 101 then numP (fun j => M0 2 j) n (numP (fun j => M0 2 j) n p) else (tyS n 8 M0 p 0).2.1
theorem mNum_at2 {M : inm} {n p q : Nat} {a b lo hi : Int} : mNum (mNum M n p a b) n q lo hi 1 3 = ((numP (fun j => M 2 j) n q : Nat) : Int) := by
  rw [mNum_at, show (fun j => mNum M n p a b 2 j) = (fun j => M 2 j) from funext (fun j => mNum_ne (by omega))]
theorem mRest_at {M0 : inm} {v n p L E T : Nat} {c : Int} (hv : 4 ≤ v) (hp : p ≤ n) : mRest M0 v n p c L E T 1 3 = ((rsP M0 n p c : Nat) : Int) := by
  unfold mRest rsP
  by_cases h1 : c = 109
  · rw [if_pos h1, if_pos h1, up2_ne (by omega), mNum_at]
  · rw [if_neg h1, if_neg h1]
    by_cases h2 : c = 108
    · rw [if_pos h2, if_pos (Or.inl h2)]
      unfold maddLayer
      rw [up2_ne (by omega), up2_ne (by omega), up2_ne (by omega), mNum_at2]
    · rw [if_neg h2]
      by_cases h3 : c = 101
      · rw [if_pos h3, if_pos (Or.inr h3)]
        unfold maddExecutor
        rw [up2_ne (by omega), up2_ne (by omega), up2_ne (by omega), mNum_at2]
      · rw [if_neg h3, if_neg (by omega)]
        unfold mType maddType
        rw [up2_ne (by omega), up2_ne (by omega), cp2_ne (by omega)]
        exact (tyS_keep (n := n) 8 M0 p 0 hp rfl (by omega)).2.2.2.2.1
theorem mRest_ne {M0 : inm} {v n p L E T x j : Nat} {c : Int} (hp : p ≤ n) (hT : T < 6 ∨ c = 109 ∨ c = 108 ∨ c = 101) (h1 : x ≠ 1 ∨ (j ≠ 3 ∧ j ≠ 4 ∧ j ≠ 5)) (h2 : x ≠ 3) (h3 : x < v ∨ v + 12 < x) : mRest M0 v n p c L E T x j = M0 x j := by
  unfold mRest
  by_cases q1 : c = 109
  · rw [if_pos q1, up2_ne (by omega), mNum_ne h1]
  · rw [if_neg q1]
    by_cases q2 : c = 108
    · rw [if_pos q2]
      unfold maddLayer
      rw [up2_ne (by omega), up2_ne (by omega), up2_ne (by omega), mNum_ne h1, mNum_ne h1]
    · rw [if_neg q2]
      by_cases q3 : c = 101
      · rw [if_pos q3]
        unfold maddExecutor
        rw [up2_ne (by omega), up2_ne (by omega), up2_ne (by omega), mNum_ne h1, mNum_ne h1]
      · rw [if_neg q3]
        unfold mType maddType
        rw [up2_ne (by omega), up2_ne (by omega), cp2_ne (by omega)]
        exact (tyS_keep (n := n) 8 M0 p 0 hp rfl (by omega)).2.2.2.2.2 x j h1 h2
theorem rsP_in {M0 : inm} {n p : Nat} {c : Int} (h : p ≤ n) : p ≤ rsP M0 n p c ∧ rsP M0 n p c ≤ n := by
  have h1 := numP_in (T := fun j => M0 2 j) h
  have h2 := numP_in (T := fun j => M0 2 j) h1.2
  have h3 := tyS_keep (n := n) 8 M0 p 0 h rfl (by omega)
  unfold rsP
  split
  · omega
  · split <;> omega
theorem full_0 {M : inm} {v : Nat} {c : Int} (h : fullV M v c = 0) : (c = 109 → M v 1 = -1) ∧ (c = 108 → M v 2 < 12) ∧ (c = 101 → M v 3 < 5) ∧ (¬ c = 109 → ¬ c = 108 → ¬ c = 101 → M v 4 < 6) := by
  unfold fullV at h
  refine ⟨fun q => ?_, fun q => ?_, fun q => ?_, fun q1 q2 q3 => ?_⟩
  · rw [if_pos q] at h; split at h <;> omega
  · rw [if_neg (by omega), if_pos q] at h; split at h <;> omega
  · rw [if_neg (by omega), if_neg (by omega), if_pos q] at h; split at h <;> omega
  · rw [if_neg q1, if_neg q2, if_neg q3] at h; split at h <;> omega
def mClause (M0 : inm) (v n p L E T : Nat) : inm := if ¬ (M0 2 p = 109 ∨ M0 2 p = 108 ∨ M0 2 p = 101 ∨ M0 2 p = 116) ∨ (¬ M0 2 p = 109 ∧ M0 v 1 = -1) then mBlame M0 1 (p : Int) else if ¬ fullV M0 v (M0 2 p) = 0 then mBlame M0 3 (p : Int) else if rsP (up2 M0 1 3 ((p + 1 : Nat) : Int)) n (p + 1) (M0 2 p) < n ∧ M0 2 (rsP (up2 M0 1 3 ((p + 1 : Nat) : Int)) n (p + 1) (M0 2 p)) = 59 then up2 (mRest (up2 M0 1 3 ((p + 1 : Nat) : Int)) v n (p + 1) (M0 2 p) L E T) 1 3 ((skp (fun j => M0 2 j) n (rsP (up2 M0 1 3 ((p + 1 : Nat) : Int)) n (p + 1) (M0 2 p) + 1) : Nat) : Int) else mBlame (mRest (up2 M0 1 3 ((p + 1 : Nat) : Int)) v n (p + 1) (M0 2 p) L E T) 1 ((rsP (up2 M0 1 3 ((p + 1 : Nat) : Int)) n (p + 1) (M0 2 p) : Nat) : Int)
set_option maxHeartbeats 4000000 in
set_option maxRecDepth 100000 in
theorem ok_X7_readClause {w n p v L E T : Nat} {M0 : inm} {Q : Nat → rfm → inm → Prop} (hv : Cs v) (hn : M0 1 2 = (n : Int)) (hp : M0 1 3 = (p : Int)) (h240 : n ≤ 240) (hpn : p ≤ n) (ht : ∀ j, j < n → 0 ≤ M0 2 j ∧ M0 2 j ≤ 255) (hL : M0 v 2 = (L : Int)) (hE : M0 v 3 = (E : Int)) (hT : M0 v 4 = (T : Int)) (hpl : p < n) (hQ : Q 303 (PP w) (mClause M0 v n p L E T)) : OkV yX7_readClause cX7_readClause 4 4 0 0 [vR 1, vR v] 303 (PP w) M0 Q := by
  refine OkV.of (by decide +kernel) (by decide +kernel) (Nat.le_of_ble_eq_true rfl) ?_
  refine go_eq (lv' := [(0, vR 1), (1, vR v)]) rfl rfl rfl rfl rfl ?_
  have hvs := hv.sc
  have hv4 : 4 ≤ v := by rcases hv with rfl | rfl <;> decide
  refine go_aload_n 0 dX7_readClause_0 rfl rfl ?_
  refine go_callVI (av := []) (st := []) (a := 1) (mc2 := 0) (ms2 := 0) dX7_readClause_1 cw7_48 (by decide) rfl rfl (Nat.le_of_ble_eq_true rfl) rfl rfl kd_1 ⟨_, _, rfl⟩ (by decide) (by omega) (ok_X7_here hn hp h240 hpn (fun _ => ?_) (fun h => absurd h (by omega)))
  refine go_istore_n (lv' := [(2, vI (M0 2 p)), (0, vR 1), (1, vR v)]) dX7_readClause_4 rfl (by decide) rfl ?_
  refine go_iload_n 0 dX7_readClause_5 rfl rfl ?_
  refine go_bipush dX7_readClause_6 (by decide) (by decide) ?_
  refine go_icmp_eq (tgt := 29) dX7_readClause_8 rfl (fun c1 => ?_) (fun c1 => ?_)
  · refine go_iconst dX7_readClause_29 (by decide) ?_
    refine go_goto (tgt := 34) dX7_readClause_30 rfl ?_
    refine go_istore_n (lv' := [(3, vI 1), (2, vI (M0 2 p)), (0, vR 1), (1, vR v)]) dX7_readClause_34 rfl (by decide) rfl ?_
    refine go_iload_n 0 dX7_readClause_35 rfl rfl ?_
    refine go_if_eq (tgt := 53) dX7_readClause_36 rfl (fun c2 => ?_) (fun c2 => ?_)
    · exact absurd c2 (by decide)
    · refine go_iload_n 1 dX7_readClause_39 rfl rfl ?_
      refine go_bipush dX7_readClause_40 (by decide) (by decide) ?_
      refine go_icmp_eq (tgt := 63) dX7_readClause_42 rfl (fun c3 => ?_) (fun c3 => ?_)
      · refine go_aload_n 3 dX7_readClause_63 rfl rfl ?_
        refine go_iload_n 1 dX7_readClause_64 rfl rfl ?_
        refine go_callVI (av := [vI (M0 2 p)]) (st := []) (a := v) (mc2 := 0) (ms2 := 0) dX7_readClause_65 cw7_59 (by decide) rfl rfl (Nat.le_of_ble_eq_true rfl) rfl rfl hv.k0 ⟨_, _, rfl⟩ (by decide) hv.l0 (ok_X1_isFullOf hv ?_)
        refine go_if_eq (tgt := 81) dX7_readClause_68 rfl (fun c4 => ?_) (fun c4 => ?_)
        · have hf0 := full_0 (M := M0) (v := v) (c := (M0 2 p)) (by assumption)
          refine go_aload_n 2 dX7_readClause_81 rfl rfl ?_
          refine go_dup dX7_readClause_82 rfl ?_
          refine gx_getI (v := ((p : Nat) : Int)) dX7_readClause_83 lk7_22.get kd_1 (by omega) rfl hp ?_
          refine go_iconst dX7_readClause_86 (by decide) ?_
          refine gx_iadd (v := ((p + 1 : Nat) : Int)) dX7_readClause_87 (by omega) ⟨by omega, by omega⟩ ?_
          refine go_putI dX7_readClause_88 (Or.inl lk7_22) kd_1 (by omega) rfl (Or.inl rfl) ?_
          refine go_aload_n 2 dX7_readClause_91 rfl rfl ?_
          refine go_iload_n 1 dX7_readClause_92 rfl rfl ?_
          refine go_aload_n 3 dX7_readClause_93 rfl rfl ?_
          refine go_callVV (av := [vI (M0 2 p), vR v]) (st := []) (a := 1) (mc2 := 0) (ms2 := 0) dX7_readClause_94 cw7_63 (by decide) rfl rfl (Nat.le_of_ble_eq_true rfl) rfl rfl kd_1 ⟨_, _, rfl⟩ (by decide) (by omega) (ok_X7_readRest (n := n) (p := p + 1) (L := L) (E := E) (T := T) (M0 := (up2 M0 1 3 ((p + 1 : Nat) : Int))) hv ((up2_ne (by omega)).trans hn) up2_same h240 (by omega) (fun j hj => by rw [up2_ne (by omega)]; exact ht j hj) ⟨(up2_ne (by omega)).trans hL, fun q => by have := hf0.2.1 q; omega⟩ ⟨(up2_ne (by omega)).trans hE, fun q => by have := hf0.2.2.1 q; omega⟩ ⟨(up2_ne (by omega)).trans hT, fun q1 q2 q3 => by have := hf0.2.2.2 q1 q2 q3; omega⟩ ?_)
          have hrb := rsP_in (M0 := (up2 M0 1 3 ((p + 1 : Nat) : Int))) (n := n) (p := p + 1) (c := (M0 2 p)) (by omega)
          have hTT : T < 6 ∨ (M0 2 p) = 109 ∨ (M0 2 p) = 108 ∨ (M0 2 p) = 101 := by have := hf0.2.2.2; omega
          have hr12 : (mRest (up2 M0 1 3 ((p + 1 : Nat) : Int)) v n (p + 1) (M0 2 p) L E T) 1 2 = (n : Int) := (mRest_ne (by omega) hTT (by omega) (by omega) (by omega)).trans ((up2_ne (by omega)).trans hn)
          have hr13 : (mRest (up2 M0 1 3 ((p + 1 : Nat) : Int)) v n (p + 1) (M0 2 p) L E T) 1 3 = (((rsP (up2 M0 1 3 ((p + 1 : Nat) : Int)) n (p + 1) (M0 2 p)) : Nat) : Int) := mRest_at (by omega) (by omega)
          have hr2 : ∀ j, (mRest (up2 M0 1 3 ((p + 1 : Nat) : Int)) v n (p + 1) (M0 2 p) L E T) 2 j = M0 2 j := fun j => (mRest_ne (by omega) hTT (by omega) (by omega) (by omega)).trans (up2_ne (by omega))
          refine go_aload_n 2 dX7_readClause_97 rfl rfl ?_
          refine go_callVI (av := []) (st := []) (a := 1) (mc2 := 0) (ms2 := 0) dX7_readClause_98 cw7_48 (by decide) rfl rfl (Nat.le_of_ble_eq_true rfl) rfl rfl kd_1 ⟨_, _, rfl⟩ (by decide) (by omega) (ok_X7_here (n := n) (p := rsP (up2 M0 1 3 ((p + 1 : Nat) : Int)) n (p + 1) (M0 2 p)) (M := (mRest (up2 M0 1 3 ((p + 1 : Nat) : Int)) v n (p + 1) (M0 2 p) L E T)) hr12 hr13 h240 (by omega) (fun g105 => ?_) (fun g106 => ?_))
          · rw [show (mRest (up2 M0 1 3 ((p + 1 : Nat) : Int)) v n (p + 1) (M0 2 p) L E T) 2 (rsP (up2 M0 1 3 ((p + 1 : Nat) : Int)) n (p + 1) (M0 2 p)) = M0 2 (rsP (up2 M0 1 3 ((p + 1 : Nat) : Int)) n (p + 1) (M0 2 p)) from hr2 _]
            refine go_bipush dX7_readClause_101 (by decide) (by decide) ?_
            refine go_icmp_eq (tgt := 116) dX7_readClause_103 rfl (fun c107 => ?_) (fun c107 => ?_)
            · refine go_aload_n 2 dX7_readClause_116 rfl rfl ?_
              refine go_dup dX7_readClause_117 rfl ?_
              refine gx_getI (v := ((rsP (up2 M0 1 3 ((p + 1 : Nat) : Int)) n (p + 1) (M0 2 p) : Nat) : Int)) dX7_readClause_118 lk7_22.get kd_1 (by omega) rfl hr13 ?_
              refine go_iconst dX7_readClause_121 (by decide) ?_
              refine gx_iadd (v := ((rsP (up2 M0 1 3 ((p + 1 : Nat) : Int)) n (p + 1) (M0 2 p) + 1 : Nat) : Int)) dX7_readClause_122 (by omega) ⟨by omega, by omega⟩ ?_
              refine go_putI dX7_readClause_123 (Or.inl lk7_22) kd_1 (by omega) rfl (Or.inl rfl) ?_
              refine go_aload_n 2 dX7_readClause_126 rfl rfl ?_
              refine go_callVV (av := []) (st := []) (a := 1) (mc2 := 0) (ms2 := 0) dX7_readClause_127 cw7_37 (by decide) rfl rfl (Nat.le_of_ble_eq_true rfl) rfl rfl kd_1 ⟨_, _, rfl⟩ (by decide) (by omega) (ok_X7_skipBlanks (n := n) (p := rsP (up2 M0 1 3 ((p + 1 : Nat) : Int)) n (p + 1) (M0 2 p) + 1) (M := (up2 (mRest (up2 M0 1 3 ((p + 1 : Nat) : Int)) v n (p + 1) (M0 2 p) L E T) 1 3 ((rsP (up2 M0 1 3 ((p + 1 : Nat) : Int)) n (p + 1) (M0 2 p) + 1 : Nat) : Int))) ((up2_ne (by omega)).trans hr12) up2_same h240 (by omega) ?_)
              rw [up2_up, show (fun j => (up2 (mRest (up2 M0 1 3 ((p + 1 : Nat) : Int)) v n (p + 1) (M0 2 p) L E T) 1 3 ((rsP (up2 M0 1 3 ((p + 1 : Nat) : Int)) n (p + 1) (M0 2 p) + 1 : Nat) : Int)) 2 j) = (fun j => M0 2 j) from funext (fun j => (up2_ne (by omega)).trans (hr2 j))]
              refine go_ret dX7_readClause_130 rfl ⟨rfl, ?_⟩
              rw [mClause] at hQ
              first | (rw [if_pos (by omega)] at hQ; exact hQ) | (rw [if_neg (by omega), if_pos (by omega)] at hQ; exact hQ) | (rw [if_neg (by omega), if_neg (by omega), if_pos (by omega)] at hQ; exact hQ) | (rw [if_neg (by omega), if_neg (by omega), if_neg (by omega)] at hQ; exact hQ)
            · refine go_aload_n 2 dX7_readClause_106 rfl rfl ?_
              refine go_iconst dX7_readClause_107 (by decide) ?_
              refine go_aload_n 2 dX7_readClause_108 rfl rfl ?_
              refine gx_getI (v := ((rsP (up2 M0 1 3 ((p + 1 : Nat) : Int)) n (p + 1) (M0 2 p) : Nat) : Int)) dX7_readClause_109 lk7_22.get kd_1 (by omega) rfl hr13 ?_
              refine go_callVV (av := [vI 1, vI ((rsP (up2 M0 1 3 ((p + 1 : Nat) : Int)) n (p + 1) (M0 2 p) : Nat) : Int)]) (st := []) (a := 1) (mc2 := 0) (ms2 := 0) dX7_readClause_112 cw7_55 (by decide) rfl rfl (Nat.le_of_ble_eq_true rfl) rfl rfl kd_1 ⟨_, _, rfl⟩ (by decide) (by omega) (ok_X7_blame ?_)
              refine go_ret dX7_readClause_115 rfl ⟨rfl, ?_⟩
              rw [mClause] at hQ
              first | (rw [if_pos (by omega)] at hQ; exact hQ) | (rw [if_neg (by omega), if_pos (by omega)] at hQ; exact hQ) | (rw [if_neg (by omega), if_neg (by omega), if_pos (by omega)] at hQ; exact hQ) | (rw [if_neg (by omega), if_neg (by omega), if_neg (by omega)] at hQ; exact hQ)
          · skip
            refine go_bipush dX7_readClause_101 (by decide) (by decide) ?_
            refine go_icmp_eq (tgt := 116) dX7_readClause_103 rfl (fun c108 => ?_) (fun c108 => ?_)
            · exact absurd c108 (by decide)
            · refine go_aload_n 2 dX7_readClause_106 rfl rfl ?_
              refine go_iconst dX7_readClause_107 (by decide) ?_
              refine go_aload_n 2 dX7_readClause_108 rfl rfl ?_
              refine gx_getI (v := ((rsP (up2 M0 1 3 ((p + 1 : Nat) : Int)) n (p + 1) (M0 2 p) : Nat) : Int)) dX7_readClause_109 lk7_22.get kd_1 (by omega) rfl hr13 ?_
              refine go_callVV (av := [vI 1, vI ((rsP (up2 M0 1 3 ((p + 1 : Nat) : Int)) n (p + 1) (M0 2 p) : Nat) : Int)]) (st := []) (a := 1) (mc2 := 0) (ms2 := 0) dX7_readClause_112 cw7_55 (by decide) rfl rfl (Nat.le_of_ble_eq_true rfl) rfl rfl kd_1 ⟨_, _, rfl⟩ (by decide) (by omega) (ok_X7_blame ?_)
              refine go_ret dX7_readClause_115 rfl ⟨rfl, ?_⟩
              rw [mClause] at hQ
              first | (rw [if_pos (by omega)] at hQ; exact hQ) | (rw [if_neg (by omega), if_pos (by omega)] at hQ; exact hQ) | (rw [if_neg (by omega), if_neg (by omega), if_pos (by omega)] at hQ; exact hQ) | (rw [if_neg (by omega), if_neg (by omega), if_neg (by omega)] at hQ; exact hQ)
        · refine go_aload_n 2 dX7_readClause_71 rfl rfl ?_
          refine go_iconst dX7_readClause_72 (by decide) ?_
          refine go_aload_n 2 dX7_readClause_73 rfl rfl ?_
          refine gx_getI (v := ((p : Nat) : Int)) dX7_readClause_74 lk7_22.get kd_1 (by omega) rfl hp ?_
          refine go_callVV (av := [vI 3, vI ((p : Nat) : Int)]) (st := []) (a := 1) (mc2 := 0) (ms2 := 0) dX7_readClause_77 cw7_55 (by decide) rfl rfl (Nat.le_of_ble_eq_true rfl) rfl rfl kd_1 ⟨_, _, rfl⟩ (by decide) (by omega) (ok_X7_blame ?_)
          refine go_ret dX7_readClause_80 rfl ⟨rfl, ?_⟩
          rw [mClause] at hQ
          first | (rw [if_pos (by omega)] at hQ; exact hQ) | (rw [if_neg (by omega), if_pos (by omega)] at hQ; exact hQ) | (rw [if_neg (by omega), if_neg (by omega), if_pos (by omega)] at hQ; exact hQ) | (rw [if_neg (by omega), if_neg (by omega), if_neg (by omega)] at hQ; exact hQ)
      · refine go_aload_n 3 dX7_readClause_45 rfl rfl ?_
        refine gx_getI (v := (M0 v 1)) dX7_readClause_46 lk7_52.get hv.k0 hv.l0 rfl rfl ?_
        refine go_iconst dX7_readClause_49 (by decide) ?_
        refine go_icmp_ne (tgt := 63) dX7_readClause_50 rfl (fun c5 => ?_) (fun c5 => ?_)
        · refine go_aload_n 3 dX7_readClause_63 rfl rfl ?_
          refine go_iload_n 1 dX7_readClause_64 rfl rfl ?_
          refine go_callVI (av := [vI (M0 2 p)]) (st := []) (a := v) (mc2 := 0) (ms2 := 0) dX7_readClause_65 cw7_59 (by decide) rfl rfl (Nat.le_of_ble_eq_true rfl) rfl rfl hv.k0 ⟨_, _, rfl⟩ (by decide) hv.l0 (ok_X1_isFullOf hv ?_)
          refine go_if_eq (tgt := 81) dX7_readClause_68 rfl (fun c6 => ?_) (fun c6 => ?_)
          · have hf0 := full_0 (M := M0) (v := v) (c := (M0 2 p)) (by assumption)
            refine go_aload_n 2 dX7_readClause_81 rfl rfl ?_
            refine go_dup dX7_readClause_82 rfl ?_
            refine gx_getI (v := ((p : Nat) : Int)) dX7_readClause_83 lk7_22.get kd_1 (by omega) rfl hp ?_
            refine go_iconst dX7_readClause_86 (by decide) ?_
            refine gx_iadd (v := ((p + 1 : Nat) : Int)) dX7_readClause_87 (by omega) ⟨by omega, by omega⟩ ?_
            refine go_putI dX7_readClause_88 (Or.inl lk7_22) kd_1 (by omega) rfl (Or.inl rfl) ?_
            refine go_aload_n 2 dX7_readClause_91 rfl rfl ?_
            refine go_iload_n 1 dX7_readClause_92 rfl rfl ?_
            refine go_aload_n 3 dX7_readClause_93 rfl rfl ?_
            refine go_callVV (av := [vI (M0 2 p), vR v]) (st := []) (a := 1) (mc2 := 0) (ms2 := 0) dX7_readClause_94 cw7_63 (by decide) rfl rfl (Nat.le_of_ble_eq_true rfl) rfl rfl kd_1 ⟨_, _, rfl⟩ (by decide) (by omega) (ok_X7_readRest (n := n) (p := p + 1) (L := L) (E := E) (T := T) (M0 := (up2 M0 1 3 ((p + 1 : Nat) : Int))) hv ((up2_ne (by omega)).trans hn) up2_same h240 (by omega) (fun j hj => by rw [up2_ne (by omega)]; exact ht j hj) ⟨(up2_ne (by omega)).trans hL, fun q => by have := hf0.2.1 q; omega⟩ ⟨(up2_ne (by omega)).trans hE, fun q => by have := hf0.2.2.1 q; omega⟩ ⟨(up2_ne (by omega)).trans hT, fun q1 q2 q3 => by have := hf0.2.2.2 q1 q2 q3; omega⟩ ?_)
            have hrb := rsP_in (M0 := (up2 M0 1 3 ((p + 1 : Nat) : Int))) (n := n) (p := p + 1) (c := (M0 2 p)) (by omega)
            have hTT : T < 6 ∨ (M0 2 p) = 109 ∨ (M0 2 p) = 108 ∨ (M0 2 p) = 101 := by have := hf0.2.2.2; omega
            have hr12 : (mRest (up2 M0 1 3 ((p + 1 : Nat) : Int)) v n (p + 1) (M0 2 p) L E T) 1 2 = (n : Int) := (mRest_ne (by omega) hTT (by omega) (by omega) (by omega)).trans ((up2_ne (by omega)).trans hn)
            have hr13 : (mRest (up2 M0 1 3 ((p + 1 : Nat) : Int)) v n (p + 1) (M0 2 p) L E T) 1 3 = (((rsP (up2 M0 1 3 ((p + 1 : Nat) : Int)) n (p + 1) (M0 2 p)) : Nat) : Int) := mRest_at (by omega) (by omega)
            have hr2 : ∀ j, (mRest (up2 M0 1 3 ((p + 1 : Nat) : Int)) v n (p + 1) (M0 2 p) L E T) 2 j = M0 2 j := fun j => (mRest_ne (by omega) hTT (by omega) (by omega) (by omega)).trans (up2_ne (by omega))
            refine go_aload_n 2 dX7_readClause_97 rfl rfl ?_
            refine go_callVI (av := []) (st := []) (a := 1) (mc2 := 0) (ms2 := 0) dX7_readClause_98 cw7_48 (by decide) rfl rfl (Nat.le_of_ble_eq_true rfl) rfl rfl kd_1 ⟨_, _, rfl⟩ (by decide) (by omega) (ok_X7_here (n := n) (p := rsP (up2 M0 1 3 ((p + 1 : Nat) : Int)) n (p + 1) (M0 2 p)) (M := (mRest (up2 M0 1 3 ((p + 1 : Nat) : Int)) v n (p + 1) (M0 2 p) L E T)) hr12 hr13 h240 (by omega) (fun g107 => ?_) (fun g108 => ?_))
            · rw [show (mRest (up2 M0 1 3 ((p + 1 : Nat) : Int)) v n (p + 1) (M0 2 p) L E T) 2 (rsP (up2 M0 1 3 ((p + 1 : Nat) : Int)) n (p + 1) (M0 2 p)) = M0 2 (rsP (up2 M0 1 3 ((p + 1 : Nat) : Int)) n (p + 1) (M0 2 p)) from hr2 _]
              refine go_bipush dX7_readClause_101 (by decide) (by decide) ?_
              refine go_icmp_eq (tgt := 116) dX7_readClause_103 rfl (fun c109 => ?_) (fun c109 => ?_)
              · refine go_aload_n 2 dX7_readClause_116 rfl rfl ?_
                refine go_dup dX7_readClause_117 rfl ?_
                refine gx_getI (v := ((rsP (up2 M0 1 3 ((p + 1 : Nat) : Int)) n (p + 1) (M0 2 p) : Nat) : Int)) dX7_readClause_118 lk7_22.get kd_1 (by omega) rfl hr13 ?_
                refine go_iconst dX7_readClause_121 (by decide) ?_
                refine gx_iadd (v := ((rsP (up2 M0 1 3 ((p + 1 : Nat) : Int)) n (p + 1) (M0 2 p) + 1 : Nat) : Int)) dX7_readClause_122 (by omega) ⟨by omega, by omega⟩ ?_
                refine go_putI dX7_readClause_123 (Or.inl lk7_22) kd_1 (by omega) rfl (Or.inl rfl) ?_
                refine go_aload_n 2 dX7_readClause_126 rfl rfl ?_
                refine go_callVV (av := []) (st := []) (a := 1) (mc2 := 0) (ms2 := 0) dX7_readClause_127 cw7_37 (by decide) rfl rfl (Nat.le_of_ble_eq_true rfl) rfl rfl kd_1 ⟨_, _, rfl⟩ (by decide) (by omega) (ok_X7_skipBlanks (n := n) (p := rsP (up2 M0 1 3 ((p + 1 : Nat) : Int)) n (p + 1) (M0 2 p) + 1) (M := (up2 (mRest (up2 M0 1 3 ((p + 1 : Nat) : Int)) v n (p + 1) (M0 2 p) L E T) 1 3 ((rsP (up2 M0 1 3 ((p + 1 : Nat) : Int)) n (p + 1) (M0 2 p) + 1 : Nat) : Int))) ((up2_ne (by omega)).trans hr12) up2_same h240 (by omega) ?_)
                rw [up2_up, show (fun j => (up2 (mRest (up2 M0 1 3 ((p + 1 : Nat) : Int)) v n (p + 1) (M0 2 p) L E T) 1 3 ((rsP (up2 M0 1 3 ((p + 1 : Nat) : Int)) n (p + 1) (M0 2 p) + 1 : Nat) : Int)) 2 j) = (fun j => M0 2 j) from funext (fun j => (up2_ne (by omega)).trans (hr2 j))]
                refine go_ret dX7_readClause_130 rfl ⟨rfl, ?_⟩
                rw [mClause] at hQ
                first | (rw [if_pos (by omega)] at hQ; exact hQ) | (rw [if_neg (by omega), if_pos (by omega)] at hQ; exact hQ) | (rw [if_neg (by omega), if_neg (by omega), if_pos (by omega)] at hQ; exact hQ) | (rw [if_neg (by omega), if_neg (by omega), if_neg (by omega)] at hQ; exact hQ)
              · refine go_aload_n 2 dX7_readClause_106 rfl rfl ?_
                refine go_iconst dX7_readClause_107 (by decide) ?_
                refine go_aload_n 2 dX7_readClause_108 rfl rfl ?_
                refine gx_getI (v := ((rsP (up2 M0 1 3 ((p + 1 : Nat) : Int)) n (p + 1) (M0 2 p) : Nat) : Int)) dX7_readClause_109 lk7_22.get kd_1 (by omega) rfl hr13 ?_
                refine go_callVV (av := [vI 1, vI ((rsP (up2 M0 1 3 ((p + 1 : Nat) : Int)) n (p + 1) (M0 2 p) : Nat) : Int)]) (st := []) (a := 1) (mc2 := 0) (ms2 := 0) dX7_readClause_112 cw7_55 (by decide) rfl rfl (Nat.le_of_ble_eq_true rfl) rfl rfl kd_1 ⟨_, _, rfl⟩ (by decide) (by omega) (ok_X7_blame ?_)
                refine go_ret dX7_readClause_115 rfl ⟨rfl, ?_⟩
                rw [mClause] at hQ
                first | (rw [if_pos (by omega)] at hQ; exact hQ) | (rw [if_neg (by omega), if_pos (by omega)] at hQ; exact hQ) | (rw [if_neg (by omega), if_neg (by omega), if_pos (by omega)] at hQ; exact hQ) | (rw [if_neg (by omega), if_neg (by omega), if_neg (by omega)] at hQ; exact hQ)
            · skip
              refine go_bipush dX7_readClause_101 (by decide) (by decide) ?_
              refine go_icmp_eq (tgt := 116) dX7_readClause_103 rfl (fun c110 => ?_) (fun c110 => ?_)
              · exact absurd c110 (by decide)
              · refine go_aload_n 2 dX7_readClause_106 rfl rfl ?_
                refine go_iconst dX7_readClause_107 (by decide) ?_
                refine go_aload_n 2 dX7_readClause_108 rfl rfl ?_
                refine gx_getI (v := ((rsP (up2 M0 1 3 ((p + 1 : Nat) : Int)) n (p + 1) (M0 2 p) : Nat) : Int)) dX7_readClause_109 lk7_22.get kd_1 (by omega) rfl hr13 ?_
                refine go_callVV (av := [vI 1, vI ((rsP (up2 M0 1 3 ((p + 1 : Nat) : Int)) n (p + 1) (M0 2 p) : Nat) : Int)]) (st := []) (a := 1) (mc2 := 0) (ms2 := 0) dX7_readClause_112 cw7_55 (by decide) rfl rfl (Nat.le_of_ble_eq_true rfl) rfl rfl kd_1 ⟨_, _, rfl⟩ (by decide) (by omega) (ok_X7_blame ?_)
                refine go_ret dX7_readClause_115 rfl ⟨rfl, ?_⟩
                rw [mClause] at hQ
                first | (rw [if_pos (by omega)] at hQ; exact hQ) | (rw [if_neg (by omega), if_pos (by omega)] at hQ; exact hQ) | (rw [if_neg (by omega), if_neg (by omega), if_pos (by omega)] at hQ; exact hQ) | (rw [if_neg (by omega), if_neg (by omega), if_neg (by omega)] at hQ; exact hQ)
          · refine go_aload_n 2 dX7_readClause_71 rfl rfl ?_
            refine go_iconst dX7_readClause_72 (by decide) ?_
            refine go_aload_n 2 dX7_readClause_73 rfl rfl ?_
            refine gx_getI (v := ((p : Nat) : Int)) dX7_readClause_74 lk7_22.get kd_1 (by omega) rfl hp ?_
            refine go_callVV (av := [vI 3, vI ((p : Nat) : Int)]) (st := []) (a := 1) (mc2 := 0) (ms2 := 0) dX7_readClause_77 cw7_55 (by decide) rfl rfl (Nat.le_of_ble_eq_true rfl) rfl rfl kd_1 ⟨_, _, rfl⟩ (by decide) (by omega) (ok_X7_blame ?_)
            refine go_ret dX7_readClause_80 rfl ⟨rfl, ?_⟩
            rw [mClause] at hQ
            first | (rw [if_pos (by omega)] at hQ; exact hQ) | (rw [if_neg (by omega), if_pos (by omega)] at hQ; exact hQ) | (rw [if_neg (by omega), if_neg (by omega), if_pos (by omega)] at hQ; exact hQ) | (rw [if_neg (by omega), if_neg (by omega), if_neg (by omega)] at hQ; exact hQ)
        · refine go_aload_n 2 dX7_readClause_53 rfl rfl ?_
          refine go_iconst dX7_readClause_54 (by decide) ?_
          refine go_aload_n 2 dX7_readClause_55 rfl rfl ?_
          refine gx_getI (v := ((p : Nat) : Int)) dX7_readClause_56 lk7_22.get kd_1 (by omega) rfl hp ?_
          refine go_callVV (av := [vI 1, vI ((p : Nat) : Int)]) (st := []) (a := 1) (mc2 := 0) (ms2 := 0) dX7_readClause_59 cw7_55 (by decide) rfl rfl (Nat.le_of_ble_eq_true rfl) rfl rfl kd_1 ⟨_, _, rfl⟩ (by decide) (by omega) (ok_X7_blame ?_)
          refine go_ret dX7_readClause_62 rfl ⟨rfl, ?_⟩
          rw [mClause] at hQ
          first | (rw [if_pos (by omega)] at hQ; exact hQ) | (rw [if_neg (by omega), if_pos (by omega)] at hQ; exact hQ) | (rw [if_neg (by omega), if_neg (by omega), if_pos (by omega)] at hQ; exact hQ) | (rw [if_neg (by omega), if_neg (by omega), if_neg (by omega)] at hQ; exact hQ)
  · refine go_iload_n 0 dX7_readClause_11 rfl rfl ?_
    refine go_bipush dX7_readClause_12 (by decide) (by decide) ?_
    refine go_icmp_eq (tgt := 29) dX7_readClause_14 rfl (fun c7 => ?_) (fun c7 => ?_)
    · refine go_iconst dX7_readClause_29 (by decide) ?_
      refine go_goto (tgt := 34) dX7_readClause_30 rfl ?_
      refine go_istore_n (lv' := [(3, vI 1), (2, vI (M0 2 p)), (0, vR 1), (1, vR v)]) dX7_readClause_34 rfl (by decide) rfl ?_
      refine go_iload_n 0 dX7_readClause_35 rfl rfl ?_
      refine go_if_eq (tgt := 53) dX7_readClause_36 rfl (fun c8 => ?_) (fun c8 => ?_)
      · exact absurd c8 (by decide)
      · refine go_iload_n 1 dX7_readClause_39 rfl rfl ?_
        refine go_bipush dX7_readClause_40 (by decide) (by decide) ?_
        refine go_icmp_eq (tgt := 63) dX7_readClause_42 rfl (fun c9 => ?_) (fun c9 => ?_)
        · refine go_aload_n 3 dX7_readClause_63 rfl rfl ?_
          refine go_iload_n 1 dX7_readClause_64 rfl rfl ?_
          refine go_callVI (av := [vI (M0 2 p)]) (st := []) (a := v) (mc2 := 0) (ms2 := 0) dX7_readClause_65 cw7_59 (by decide) rfl rfl (Nat.le_of_ble_eq_true rfl) rfl rfl hv.k0 ⟨_, _, rfl⟩ (by decide) hv.l0 (ok_X1_isFullOf hv ?_)
          refine go_if_eq (tgt := 81) dX7_readClause_68 rfl (fun c10 => ?_) (fun c10 => ?_)
          · have hf0 := full_0 (M := M0) (v := v) (c := (M0 2 p)) (by assumption)
            refine go_aload_n 2 dX7_readClause_81 rfl rfl ?_
            refine go_dup dX7_readClause_82 rfl ?_
            refine gx_getI (v := ((p : Nat) : Int)) dX7_readClause_83 lk7_22.get kd_1 (by omega) rfl hp ?_
            refine go_iconst dX7_readClause_86 (by decide) ?_
            refine gx_iadd (v := ((p + 1 : Nat) : Int)) dX7_readClause_87 (by omega) ⟨by omega, by omega⟩ ?_
            refine go_putI dX7_readClause_88 (Or.inl lk7_22) kd_1 (by omega) rfl (Or.inl rfl) ?_
            refine go_aload_n 2 dX7_readClause_91 rfl rfl ?_
            refine go_iload_n 1 dX7_readClause_92 rfl rfl ?_
            refine go_aload_n 3 dX7_readClause_93 rfl rfl ?_
            refine go_callVV (av := [vI (M0 2 p), vR v]) (st := []) (a := 1) (mc2 := 0) (ms2 := 0) dX7_readClause_94 cw7_63 (by decide) rfl rfl (Nat.le_of_ble_eq_true rfl) rfl rfl kd_1 ⟨_, _, rfl⟩ (by decide) (by omega) (ok_X7_readRest (n := n) (p := p + 1) (L := L) (E := E) (T := T) (M0 := (up2 M0 1 3 ((p + 1 : Nat) : Int))) hv ((up2_ne (by omega)).trans hn) up2_same h240 (by omega) (fun j hj => by rw [up2_ne (by omega)]; exact ht j hj) ⟨(up2_ne (by omega)).trans hL, fun q => by have := hf0.2.1 q; omega⟩ ⟨(up2_ne (by omega)).trans hE, fun q => by have := hf0.2.2.1 q; omega⟩ ⟨(up2_ne (by omega)).trans hT, fun q1 q2 q3 => by have := hf0.2.2.2 q1 q2 q3; omega⟩ ?_)
            have hrb := rsP_in (M0 := (up2 M0 1 3 ((p + 1 : Nat) : Int))) (n := n) (p := p + 1) (c := (M0 2 p)) (by omega)
            have hTT : T < 6 ∨ (M0 2 p) = 109 ∨ (M0 2 p) = 108 ∨ (M0 2 p) = 101 := by have := hf0.2.2.2; omega
            have hr12 : (mRest (up2 M0 1 3 ((p + 1 : Nat) : Int)) v n (p + 1) (M0 2 p) L E T) 1 2 = (n : Int) := (mRest_ne (by omega) hTT (by omega) (by omega) (by omega)).trans ((up2_ne (by omega)).trans hn)
            have hr13 : (mRest (up2 M0 1 3 ((p + 1 : Nat) : Int)) v n (p + 1) (M0 2 p) L E T) 1 3 = (((rsP (up2 M0 1 3 ((p + 1 : Nat) : Int)) n (p + 1) (M0 2 p)) : Nat) : Int) := mRest_at (by omega) (by omega)
            have hr2 : ∀ j, (mRest (up2 M0 1 3 ((p + 1 : Nat) : Int)) v n (p + 1) (M0 2 p) L E T) 2 j = M0 2 j := fun j => (mRest_ne (by omega) hTT (by omega) (by omega) (by omega)).trans (up2_ne (by omega))
            refine go_aload_n 2 dX7_readClause_97 rfl rfl ?_
            refine go_callVI (av := []) (st := []) (a := 1) (mc2 := 0) (ms2 := 0) dX7_readClause_98 cw7_48 (by decide) rfl rfl (Nat.le_of_ble_eq_true rfl) rfl rfl kd_1 ⟨_, _, rfl⟩ (by decide) (by omega) (ok_X7_here (n := n) (p := rsP (up2 M0 1 3 ((p + 1 : Nat) : Int)) n (p + 1) (M0 2 p)) (M := (mRest (up2 M0 1 3 ((p + 1 : Nat) : Int)) v n (p + 1) (M0 2 p) L E T)) hr12 hr13 h240 (by omega) (fun g111 => ?_) (fun g112 => ?_))
            · rw [show (mRest (up2 M0 1 3 ((p + 1 : Nat) : Int)) v n (p + 1) (M0 2 p) L E T) 2 (rsP (up2 M0 1 3 ((p + 1 : Nat) : Int)) n (p + 1) (M0 2 p)) = M0 2 (rsP (up2 M0 1 3 ((p + 1 : Nat) : Int)) n (p + 1) (M0 2 p)) from hr2 _]
              refine go_bipush dX7_readClause_101 (by decide) (by decide) ?_
              refine go_icmp_eq (tgt := 116) dX7_readClause_103 rfl (fun c113 => ?_) (fun c113 => ?_)
              · refine go_aload_n 2 dX7_readClause_116 rfl rfl ?_
                refine go_dup dX7_readClause_117 rfl ?_
                refine gx_getI (v := ((rsP (up2 M0 1 3 ((p + 1 : Nat) : Int)) n (p + 1) (M0 2 p) : Nat) : Int)) dX7_readClause_118 lk7_22.get kd_1 (by omega) rfl hr13 ?_
                refine go_iconst dX7_readClause_121 (by decide) ?_
                refine gx_iadd (v := ((rsP (up2 M0 1 3 ((p + 1 : Nat) : Int)) n (p + 1) (M0 2 p) + 1 : Nat) : Int)) dX7_readClause_122 (by omega) ⟨by omega, by omega⟩ ?_
                refine go_putI dX7_readClause_123 (Or.inl lk7_22) kd_1 (by omega) rfl (Or.inl rfl) ?_
                refine go_aload_n 2 dX7_readClause_126 rfl rfl ?_
                refine go_callVV (av := []) (st := []) (a := 1) (mc2 := 0) (ms2 := 0) dX7_readClause_127 cw7_37 (by decide) rfl rfl (Nat.le_of_ble_eq_true rfl) rfl rfl kd_1 ⟨_, _, rfl⟩ (by decide) (by omega) (ok_X7_skipBlanks (n := n) (p := rsP (up2 M0 1 3 ((p + 1 : Nat) : Int)) n (p + 1) (M0 2 p) + 1) (M := (up2 (mRest (up2 M0 1 3 ((p + 1 : Nat) : Int)) v n (p + 1) (M0 2 p) L E T) 1 3 ((rsP (up2 M0 1 3 ((p + 1 : Nat) : Int)) n (p + 1) (M0 2 p) + 1 : Nat) : Int))) ((up2_ne (by omega)).trans hr12) up2_same h240 (by omega) ?_)
                rw [up2_up, show (fun j => (up2 (mRest (up2 M0 1 3 ((p + 1 : Nat) : Int)) v n (p + 1) (M0 2 p) L E T) 1 3 ((rsP (up2 M0 1 3 ((p + 1 : Nat) : Int)) n (p + 1) (M0 2 p) + 1 : Nat) : Int)) 2 j) = (fun j => M0 2 j) from funext (fun j => (up2_ne (by omega)).trans (hr2 j))]
                refine go_ret dX7_readClause_130 rfl ⟨rfl, ?_⟩
                rw [mClause] at hQ
                first | (rw [if_pos (by omega)] at hQ; exact hQ) | (rw [if_neg (by omega), if_pos (by omega)] at hQ; exact hQ) | (rw [if_neg (by omega), if_neg (by omega), if_pos (by omega)] at hQ; exact hQ) | (rw [if_neg (by omega), if_neg (by omega), if_neg (by omega)] at hQ; exact hQ)
              · refine go_aload_n 2 dX7_readClause_106 rfl rfl ?_
                refine go_iconst dX7_readClause_107 (by decide) ?_
                refine go_aload_n 2 dX7_readClause_108 rfl rfl ?_
                refine gx_getI (v := ((rsP (up2 M0 1 3 ((p + 1 : Nat) : Int)) n (p + 1) (M0 2 p) : Nat) : Int)) dX7_readClause_109 lk7_22.get kd_1 (by omega) rfl hr13 ?_
                refine go_callVV (av := [vI 1, vI ((rsP (up2 M0 1 3 ((p + 1 : Nat) : Int)) n (p + 1) (M0 2 p) : Nat) : Int)]) (st := []) (a := 1) (mc2 := 0) (ms2 := 0) dX7_readClause_112 cw7_55 (by decide) rfl rfl (Nat.le_of_ble_eq_true rfl) rfl rfl kd_1 ⟨_, _, rfl⟩ (by decide) (by omega) (ok_X7_blame ?_)
                refine go_ret dX7_readClause_115 rfl ⟨rfl, ?_⟩
                rw [mClause] at hQ
                first | (rw [if_pos (by omega)] at hQ; exact hQ) | (rw [if_neg (by omega), if_pos (by omega)] at hQ; exact hQ) | (rw [if_neg (by omega), if_neg (by omega), if_pos (by omega)] at hQ; exact hQ) | (rw [if_neg (by omega), if_neg (by omega), if_neg (by omega)] at hQ; exact hQ)
            · skip
              refine go_bipush dX7_readClause_101 (by decide) (by decide) ?_
              refine go_icmp_eq (tgt := 116) dX7_readClause_103 rfl (fun c114 => ?_) (fun c114 => ?_)
              · exact absurd c114 (by decide)
              · refine go_aload_n 2 dX7_readClause_106 rfl rfl ?_
                refine go_iconst dX7_readClause_107 (by decide) ?_
                refine go_aload_n 2 dX7_readClause_108 rfl rfl ?_
                refine gx_getI (v := ((rsP (up2 M0 1 3 ((p + 1 : Nat) : Int)) n (p + 1) (M0 2 p) : Nat) : Int)) dX7_readClause_109 lk7_22.get kd_1 (by omega) rfl hr13 ?_
                refine go_callVV (av := [vI 1, vI ((rsP (up2 M0 1 3 ((p + 1 : Nat) : Int)) n (p + 1) (M0 2 p) : Nat) : Int)]) (st := []) (a := 1) (mc2 := 0) (ms2 := 0) dX7_readClause_112 cw7_55 (by decide) rfl rfl (Nat.le_of_ble_eq_true rfl) rfl rfl kd_1 ⟨_, _, rfl⟩ (by decide) (by omega) (ok_X7_blame ?_)
                refine go_ret dX7_readClause_115 rfl ⟨rfl, ?_⟩
                rw [mClause] at hQ
                first | (rw [if_pos (by omega)] at hQ; exact hQ) | (rw [if_neg (by omega), if_pos (by omega)] at hQ; exact hQ) | (rw [if_neg (by omega), if_neg (by omega), if_pos (by omega)] at hQ; exact hQ) | (rw [if_neg (by omega), if_neg (by omega), if_neg (by omega)] at hQ; exact hQ)
          · refine go_aload_n 2 dX7_readClause_71 rfl rfl ?_
            refine go_iconst dX7_readClause_72 (by decide) ?_
            refine go_aload_n 2 dX7_readClause_73 rfl rfl ?_
            refine gx_getI (v := ((p : Nat) : Int)) dX7_readClause_74 lk7_22.get kd_1 (by omega) rfl hp ?_
            refine go_callVV (av := [vI 3, vI ((p : Nat) : Int)]) (st := []) (a := 1) (mc2 := 0) (ms2 := 0) dX7_readClause_77 cw7_55 (by decide) rfl rfl (Nat.le_of_ble_eq_true rfl) rfl rfl kd_1 ⟨_, _, rfl⟩ (by decide) (by omega) (ok_X7_blame ?_)
            refine go_ret dX7_readClause_80 rfl ⟨rfl, ?_⟩
            rw [mClause] at hQ
            first | (rw [if_pos (by omega)] at hQ; exact hQ) | (rw [if_neg (by omega), if_pos (by omega)] at hQ; exact hQ) | (rw [if_neg (by omega), if_neg (by omega), if_pos (by omega)] at hQ; exact hQ) | (rw [if_neg (by omega), if_neg (by omega), if_neg (by omega)] at hQ; exact hQ)
        · refine go_aload_n 3 dX7_readClause_45 rfl rfl ?_
          refine gx_getI (v := (M0 v 1)) dX7_readClause_46 lk7_52.get hv.k0 hv.l0 rfl rfl ?_
          refine go_iconst dX7_readClause_49 (by decide) ?_
          refine go_icmp_ne (tgt := 63) dX7_readClause_50 rfl (fun c11 => ?_) (fun c11 => ?_)
          · refine go_aload_n 3 dX7_readClause_63 rfl rfl ?_
            refine go_iload_n 1 dX7_readClause_64 rfl rfl ?_
            refine go_callVI (av := [vI (M0 2 p)]) (st := []) (a := v) (mc2 := 0) (ms2 := 0) dX7_readClause_65 cw7_59 (by decide) rfl rfl (Nat.le_of_ble_eq_true rfl) rfl rfl hv.k0 ⟨_, _, rfl⟩ (by decide) hv.l0 (ok_X1_isFullOf hv ?_)
            refine go_if_eq (tgt := 81) dX7_readClause_68 rfl (fun c12 => ?_) (fun c12 => ?_)
            · have hf0 := full_0 (M := M0) (v := v) (c := (M0 2 p)) (by assumption)
              refine go_aload_n 2 dX7_readClause_81 rfl rfl ?_
              refine go_dup dX7_readClause_82 rfl ?_
              refine gx_getI (v := ((p : Nat) : Int)) dX7_readClause_83 lk7_22.get kd_1 (by omega) rfl hp ?_
              refine go_iconst dX7_readClause_86 (by decide) ?_
              refine gx_iadd (v := ((p + 1 : Nat) : Int)) dX7_readClause_87 (by omega) ⟨by omega, by omega⟩ ?_
              refine go_putI dX7_readClause_88 (Or.inl lk7_22) kd_1 (by omega) rfl (Or.inl rfl) ?_
              refine go_aload_n 2 dX7_readClause_91 rfl rfl ?_
              refine go_iload_n 1 dX7_readClause_92 rfl rfl ?_
              refine go_aload_n 3 dX7_readClause_93 rfl rfl ?_
              refine go_callVV (av := [vI (M0 2 p), vR v]) (st := []) (a := 1) (mc2 := 0) (ms2 := 0) dX7_readClause_94 cw7_63 (by decide) rfl rfl (Nat.le_of_ble_eq_true rfl) rfl rfl kd_1 ⟨_, _, rfl⟩ (by decide) (by omega) (ok_X7_readRest (n := n) (p := p + 1) (L := L) (E := E) (T := T) (M0 := (up2 M0 1 3 ((p + 1 : Nat) : Int))) hv ((up2_ne (by omega)).trans hn) up2_same h240 (by omega) (fun j hj => by rw [up2_ne (by omega)]; exact ht j hj) ⟨(up2_ne (by omega)).trans hL, fun q => by have := hf0.2.1 q; omega⟩ ⟨(up2_ne (by omega)).trans hE, fun q => by have := hf0.2.2.1 q; omega⟩ ⟨(up2_ne (by omega)).trans hT, fun q1 q2 q3 => by have := hf0.2.2.2 q1 q2 q3; omega⟩ ?_)
              have hrb := rsP_in (M0 := (up2 M0 1 3 ((p + 1 : Nat) : Int))) (n := n) (p := p + 1) (c := (M0 2 p)) (by omega)
              have hTT : T < 6 ∨ (M0 2 p) = 109 ∨ (M0 2 p) = 108 ∨ (M0 2 p) = 101 := by have := hf0.2.2.2; omega
              have hr12 : (mRest (up2 M0 1 3 ((p + 1 : Nat) : Int)) v n (p + 1) (M0 2 p) L E T) 1 2 = (n : Int) := (mRest_ne (by omega) hTT (by omega) (by omega) (by omega)).trans ((up2_ne (by omega)).trans hn)
              have hr13 : (mRest (up2 M0 1 3 ((p + 1 : Nat) : Int)) v n (p + 1) (M0 2 p) L E T) 1 3 = (((rsP (up2 M0 1 3 ((p + 1 : Nat) : Int)) n (p + 1) (M0 2 p)) : Nat) : Int) := mRest_at (by omega) (by omega)
              have hr2 : ∀ j, (mRest (up2 M0 1 3 ((p + 1 : Nat) : Int)) v n (p + 1) (M0 2 p) L E T) 2 j = M0 2 j := fun j => (mRest_ne (by omega) hTT (by omega) (by omega) (by omega)).trans (up2_ne (by omega))
              refine go_aload_n 2 dX7_readClause_97 rfl rfl ?_
              refine go_callVI (av := []) (st := []) (a := 1) (mc2 := 0) (ms2 := 0) dX7_readClause_98 cw7_48 (by decide) rfl rfl (Nat.le_of_ble_eq_true rfl) rfl rfl kd_1 ⟨_, _, rfl⟩ (by decide) (by omega) (ok_X7_here (n := n) (p := rsP (up2 M0 1 3 ((p + 1 : Nat) : Int)) n (p + 1) (M0 2 p)) (M := (mRest (up2 M0 1 3 ((p + 1 : Nat) : Int)) v n (p + 1) (M0 2 p) L E T)) hr12 hr13 h240 (by omega) (fun g113 => ?_) (fun g114 => ?_))
              · rw [show (mRest (up2 M0 1 3 ((p + 1 : Nat) : Int)) v n (p + 1) (M0 2 p) L E T) 2 (rsP (up2 M0 1 3 ((p + 1 : Nat) : Int)) n (p + 1) (M0 2 p)) = M0 2 (rsP (up2 M0 1 3 ((p + 1 : Nat) : Int)) n (p + 1) (M0 2 p)) from hr2 _]
                refine go_bipush dX7_readClause_101 (by decide) (by decide) ?_
                refine go_icmp_eq (tgt := 116) dX7_readClause_103 rfl (fun c115 => ?_) (fun c115 => ?_)
                · refine go_aload_n 2 dX7_readClause_116 rfl rfl ?_
                  refine go_dup dX7_readClause_117 rfl ?_
                  refine gx_getI (v := ((rsP (up2 M0 1 3 ((p + 1 : Nat) : Int)) n (p + 1) (M0 2 p) : Nat) : Int)) dX7_readClause_118 lk7_22.get kd_1 (by omega) rfl hr13 ?_
                  refine go_iconst dX7_readClause_121 (by decide) ?_
                  refine gx_iadd (v := ((rsP (up2 M0 1 3 ((p + 1 : Nat) : Int)) n (p + 1) (M0 2 p) + 1 : Nat) : Int)) dX7_readClause_122 (by omega) ⟨by omega, by omega⟩ ?_
                  refine go_putI dX7_readClause_123 (Or.inl lk7_22) kd_1 (by omega) rfl (Or.inl rfl) ?_
                  refine go_aload_n 2 dX7_readClause_126 rfl rfl ?_
                  refine go_callVV (av := []) (st := []) (a := 1) (mc2 := 0) (ms2 := 0) dX7_readClause_127 cw7_37 (by decide) rfl rfl (Nat.le_of_ble_eq_true rfl) rfl rfl kd_1 ⟨_, _, rfl⟩ (by decide) (by omega) (ok_X7_skipBlanks (n := n) (p := rsP (up2 M0 1 3 ((p + 1 : Nat) : Int)) n (p + 1) (M0 2 p) + 1) (M := (up2 (mRest (up2 M0 1 3 ((p + 1 : Nat) : Int)) v n (p + 1) (M0 2 p) L E T) 1 3 ((rsP (up2 M0 1 3 ((p + 1 : Nat) : Int)) n (p + 1) (M0 2 p) + 1 : Nat) : Int))) ((up2_ne (by omega)).trans hr12) up2_same h240 (by omega) ?_)
                  rw [up2_up, show (fun j => (up2 (mRest (up2 M0 1 3 ((p + 1 : Nat) : Int)) v n (p + 1) (M0 2 p) L E T) 1 3 ((rsP (up2 M0 1 3 ((p + 1 : Nat) : Int)) n (p + 1) (M0 2 p) + 1 : Nat) : Int)) 2 j) = (fun j => M0 2 j) from funext (fun j => (up2_ne (by omega)).trans (hr2 j))]
                  refine go_ret dX7_readClause_130 rfl ⟨rfl, ?_⟩
                  rw [mClause] at hQ
                  first | (rw [if_pos (by omega)] at hQ; exact hQ) | (rw [if_neg (by omega), if_pos (by omega)] at hQ; exact hQ) | (rw [if_neg (by omega), if_neg (by omega), if_pos (by omega)] at hQ; exact hQ) | (rw [if_neg (by omega), if_neg (by omega), if_neg (by omega)] at hQ; exact hQ)
                · refine go_aload_n 2 dX7_readClause_106 rfl rfl ?_
                  refine go_iconst dX7_readClause_107 (by decide) ?_
                  refine go_aload_n 2 dX7_readClause_108 rfl rfl ?_
                  refine gx_getI (v := ((rsP (up2 M0 1 3 ((p + 1 : Nat) : Int)) n (p + 1) (M0 2 p) : Nat) : Int)) dX7_readClause_109 lk7_22.get kd_1 (by omega) rfl hr13 ?_
                  refine go_callVV (av := [vI 1, vI ((rsP (up2 M0 1 3 ((p + 1 : Nat) : Int)) n (p + 1) (M0 2 p) : Nat) : Int)]) (st := []) (a := 1) (mc2 := 0) (ms2 := 0) dX7_readClause_112 cw7_55 (by decide) rfl rfl (Nat.le_of_ble_eq_true rfl) rfl rfl kd_1 ⟨_, _, rfl⟩ (by decide) (by omega) (ok_X7_blame ?_)
                  refine go_ret dX7_readClause_115 rfl ⟨rfl, ?_⟩
                  rw [mClause] at hQ
                  first | (rw [if_pos (by omega)] at hQ; exact hQ) | (rw [if_neg (by omega), if_pos (by omega)] at hQ; exact hQ) | (rw [if_neg (by omega), if_neg (by omega), if_pos (by omega)] at hQ; exact hQ) | (rw [if_neg (by omega), if_neg (by omega), if_neg (by omega)] at hQ; exact hQ)
              · skip
                refine go_bipush dX7_readClause_101 (by decide) (by decide) ?_
                refine go_icmp_eq (tgt := 116) dX7_readClause_103 rfl (fun c116 => ?_) (fun c116 => ?_)
                · exact absurd c116 (by decide)
                · refine go_aload_n 2 dX7_readClause_106 rfl rfl ?_
                  refine go_iconst dX7_readClause_107 (by decide) ?_
                  refine go_aload_n 2 dX7_readClause_108 rfl rfl ?_
                  refine gx_getI (v := ((rsP (up2 M0 1 3 ((p + 1 : Nat) : Int)) n (p + 1) (M0 2 p) : Nat) : Int)) dX7_readClause_109 lk7_22.get kd_1 (by omega) rfl hr13 ?_
                  refine go_callVV (av := [vI 1, vI ((rsP (up2 M0 1 3 ((p + 1 : Nat) : Int)) n (p + 1) (M0 2 p) : Nat) : Int)]) (st := []) (a := 1) (mc2 := 0) (ms2 := 0) dX7_readClause_112 cw7_55 (by decide) rfl rfl (Nat.le_of_ble_eq_true rfl) rfl rfl kd_1 ⟨_, _, rfl⟩ (by decide) (by omega) (ok_X7_blame ?_)
                  refine go_ret dX7_readClause_115 rfl ⟨rfl, ?_⟩
                  rw [mClause] at hQ
                  first | (rw [if_pos (by omega)] at hQ; exact hQ) | (rw [if_neg (by omega), if_pos (by omega)] at hQ; exact hQ) | (rw [if_neg (by omega), if_neg (by omega), if_pos (by omega)] at hQ; exact hQ) | (rw [if_neg (by omega), if_neg (by omega), if_neg (by omega)] at hQ; exact hQ)
            · refine go_aload_n 2 dX7_readClause_71 rfl rfl ?_
              refine go_iconst dX7_readClause_72 (by decide) ?_
              refine go_aload_n 2 dX7_readClause_73 rfl rfl ?_
              refine gx_getI (v := ((p : Nat) : Int)) dX7_readClause_74 lk7_22.get kd_1 (by omega) rfl hp ?_
              refine go_callVV (av := [vI 3, vI ((p : Nat) : Int)]) (st := []) (a := 1) (mc2 := 0) (ms2 := 0) dX7_readClause_77 cw7_55 (by decide) rfl rfl (Nat.le_of_ble_eq_true rfl) rfl rfl kd_1 ⟨_, _, rfl⟩ (by decide) (by omega) (ok_X7_blame ?_)
              refine go_ret dX7_readClause_80 rfl ⟨rfl, ?_⟩
              rw [mClause] at hQ
              first | (rw [if_pos (by omega)] at hQ; exact hQ) | (rw [if_neg (by omega), if_pos (by omega)] at hQ; exact hQ) | (rw [if_neg (by omega), if_neg (by omega), if_pos (by omega)] at hQ; exact hQ) | (rw [if_neg (by omega), if_neg (by omega), if_neg (by omega)] at hQ; exact hQ)
          · refine go_aload_n 2 dX7_readClause_53 rfl rfl ?_
            refine go_iconst dX7_readClause_54 (by decide) ?_
            refine go_aload_n 2 dX7_readClause_55 rfl rfl ?_
            refine gx_getI (v := ((p : Nat) : Int)) dX7_readClause_56 lk7_22.get kd_1 (by omega) rfl hp ?_
            refine go_callVV (av := [vI 1, vI ((p : Nat) : Int)]) (st := []) (a := 1) (mc2 := 0) (ms2 := 0) dX7_readClause_59 cw7_55 (by decide) rfl rfl (Nat.le_of_ble_eq_true rfl) rfl rfl kd_1 ⟨_, _, rfl⟩ (by decide) (by omega) (ok_X7_blame ?_)
            refine go_ret dX7_readClause_62 rfl ⟨rfl, ?_⟩
            rw [mClause] at hQ
            first | (rw [if_pos (by omega)] at hQ; exact hQ) | (rw [if_neg (by omega), if_pos (by omega)] at hQ; exact hQ) | (rw [if_neg (by omega), if_neg (by omega), if_pos (by omega)] at hQ; exact hQ) | (rw [if_neg (by omega), if_neg (by omega), if_neg (by omega)] at hQ; exact hQ)
    · refine go_iload_n 0 dX7_readClause_17 rfl rfl ?_
      refine go_bipush dX7_readClause_18 (by decide) (by decide) ?_
      refine go_icmp_eq (tgt := 29) dX7_readClause_20 rfl (fun c13 => ?_) (fun c13 => ?_)
      · refine go_iconst dX7_readClause_29 (by decide) ?_
        refine go_goto (tgt := 34) dX7_readClause_30 rfl ?_
        refine go_istore_n (lv' := [(3, vI 1), (2, vI (M0 2 p)), (0, vR 1), (1, vR v)]) dX7_readClause_34 rfl (by decide) rfl ?_
        refine go_iload_n 0 dX7_readClause_35 rfl rfl ?_
        refine go_if_eq (tgt := 53) dX7_readClause_36 rfl (fun c14 => ?_) (fun c14 => ?_)
        · exact absurd c14 (by decide)
        · refine go_iload_n 1 dX7_readClause_39 rfl rfl ?_
          refine go_bipush dX7_readClause_40 (by decide) (by decide) ?_
          refine go_icmp_eq (tgt := 63) dX7_readClause_42 rfl (fun c15 => ?_) (fun c15 => ?_)
          · refine go_aload_n 3 dX7_readClause_63 rfl rfl ?_
            refine go_iload_n 1 dX7_readClause_64 rfl rfl ?_
            refine go_callVI (av := [vI (M0 2 p)]) (st := []) (a := v) (mc2 := 0) (ms2 := 0) dX7_readClause_65 cw7_59 (by decide) rfl rfl (Nat.le_of_ble_eq_true rfl) rfl rfl hv.k0 ⟨_, _, rfl⟩ (by decide) hv.l0 (ok_X1_isFullOf hv ?_)
            refine go_if_eq (tgt := 81) dX7_readClause_68 rfl (fun c16 => ?_) (fun c16 => ?_)
            · have hf0 := full_0 (M := M0) (v := v) (c := (M0 2 p)) (by assumption)
              refine go_aload_n 2 dX7_readClause_81 rfl rfl ?_
              refine go_dup dX7_readClause_82 rfl ?_
              refine gx_getI (v := ((p : Nat) : Int)) dX7_readClause_83 lk7_22.get kd_1 (by omega) rfl hp ?_
              refine go_iconst dX7_readClause_86 (by decide) ?_
              refine gx_iadd (v := ((p + 1 : Nat) : Int)) dX7_readClause_87 (by omega) ⟨by omega, by omega⟩ ?_
              refine go_putI dX7_readClause_88 (Or.inl lk7_22) kd_1 (by omega) rfl (Or.inl rfl) ?_
              refine go_aload_n 2 dX7_readClause_91 rfl rfl ?_
              refine go_iload_n 1 dX7_readClause_92 rfl rfl ?_
              refine go_aload_n 3 dX7_readClause_93 rfl rfl ?_
              refine go_callVV (av := [vI (M0 2 p), vR v]) (st := []) (a := 1) (mc2 := 0) (ms2 := 0) dX7_readClause_94 cw7_63 (by decide) rfl rfl (Nat.le_of_ble_eq_true rfl) rfl rfl kd_1 ⟨_, _, rfl⟩ (by decide) (by omega) (ok_X7_readRest (n := n) (p := p + 1) (L := L) (E := E) (T := T) (M0 := (up2 M0 1 3 ((p + 1 : Nat) : Int))) hv ((up2_ne (by omega)).trans hn) up2_same h240 (by omega) (fun j hj => by rw [up2_ne (by omega)]; exact ht j hj) ⟨(up2_ne (by omega)).trans hL, fun q => by have := hf0.2.1 q; omega⟩ ⟨(up2_ne (by omega)).trans hE, fun q => by have := hf0.2.2.1 q; omega⟩ ⟨(up2_ne (by omega)).trans hT, fun q1 q2 q3 => by have := hf0.2.2.2 q1 q2 q3; omega⟩ ?_)
              have hrb := rsP_in (M0 := (up2 M0 1 3 ((p + 1 : Nat) : Int))) (n := n) (p := p + 1) (c := (M0 2 p)) (by omega)
              have hTT : T < 6 ∨ (M0 2 p) = 109 ∨ (M0 2 p) = 108 ∨ (M0 2 p) = 101 := by have := hf0.2.2.2; omega
              have hr12 : (mRest (up2 M0 1 3 ((p + 1 : Nat) : Int)) v n (p + 1) (M0 2 p) L E T) 1 2 = (n : Int) := (mRest_ne (by omega) hTT (by omega) (by omega) (by omega)).trans ((up2_ne (by omega)).trans hn)
              have hr13 : (mRest (up2 M0 1 3 ((p + 1 : Nat) : Int)) v n (p + 1) (M0 2 p) L E T) 1 3 = (((rsP (up2 M0 1 3 ((p + 1 : Nat) : Int)) n (p + 1) (M0 2 p)) : Nat) : Int) := mRest_at (by omega) (by omega)
              have hr2 : ∀ j, (mRest (up2 M0 1 3 ((p + 1 : Nat) : Int)) v n (p + 1) (M0 2 p) L E T) 2 j = M0 2 j := fun j => (mRest_ne (by omega) hTT (by omega) (by omega) (by omega)).trans (up2_ne (by omega))
              refine go_aload_n 2 dX7_readClause_97 rfl rfl ?_
              refine go_callVI (av := []) (st := []) (a := 1) (mc2 := 0) (ms2 := 0) dX7_readClause_98 cw7_48 (by decide) rfl rfl (Nat.le_of_ble_eq_true rfl) rfl rfl kd_1 ⟨_, _, rfl⟩ (by decide) (by omega) (ok_X7_here (n := n) (p := rsP (up2 M0 1 3 ((p + 1 : Nat) : Int)) n (p + 1) (M0 2 p)) (M := (mRest (up2 M0 1 3 ((p + 1 : Nat) : Int)) v n (p + 1) (M0 2 p) L E T)) hr12 hr13 h240 (by omega) (fun g117 => ?_) (fun g118 => ?_))
              · rw [show (mRest (up2 M0 1 3 ((p + 1 : Nat) : Int)) v n (p + 1) (M0 2 p) L E T) 2 (rsP (up2 M0 1 3 ((p + 1 : Nat) : Int)) n (p + 1) (M0 2 p)) = M0 2 (rsP (up2 M0 1 3 ((p + 1 : Nat) : Int)) n (p + 1) (M0 2 p)) from hr2 _]
                refine go_bipush dX7_readClause_101 (by decide) (by decide) ?_
                refine go_icmp_eq (tgt := 116) dX7_readClause_103 rfl (fun c119 => ?_) (fun c119 => ?_)
                · refine go_aload_n 2 dX7_readClause_116 rfl rfl ?_
                  refine go_dup dX7_readClause_117 rfl ?_
                  refine gx_getI (v := ((rsP (up2 M0 1 3 ((p + 1 : Nat) : Int)) n (p + 1) (M0 2 p) : Nat) : Int)) dX7_readClause_118 lk7_22.get kd_1 (by omega) rfl hr13 ?_
                  refine go_iconst dX7_readClause_121 (by decide) ?_
                  refine gx_iadd (v := ((rsP (up2 M0 1 3 ((p + 1 : Nat) : Int)) n (p + 1) (M0 2 p) + 1 : Nat) : Int)) dX7_readClause_122 (by omega) ⟨by omega, by omega⟩ ?_
                  refine go_putI dX7_readClause_123 (Or.inl lk7_22) kd_1 (by omega) rfl (Or.inl rfl) ?_
                  refine go_aload_n 2 dX7_readClause_126 rfl rfl ?_
                  refine go_callVV (av := []) (st := []) (a := 1) (mc2 := 0) (ms2 := 0) dX7_readClause_127 cw7_37 (by decide) rfl rfl (Nat.le_of_ble_eq_true rfl) rfl rfl kd_1 ⟨_, _, rfl⟩ (by decide) (by omega) (ok_X7_skipBlanks (n := n) (p := rsP (up2 M0 1 3 ((p + 1 : Nat) : Int)) n (p + 1) (M0 2 p) + 1) (M := (up2 (mRest (up2 M0 1 3 ((p + 1 : Nat) : Int)) v n (p + 1) (M0 2 p) L E T) 1 3 ((rsP (up2 M0 1 3 ((p + 1 : Nat) : Int)) n (p + 1) (M0 2 p) + 1 : Nat) : Int))) ((up2_ne (by omega)).trans hr12) up2_same h240 (by omega) ?_)
                  rw [up2_up, show (fun j => (up2 (mRest (up2 M0 1 3 ((p + 1 : Nat) : Int)) v n (p + 1) (M0 2 p) L E T) 1 3 ((rsP (up2 M0 1 3 ((p + 1 : Nat) : Int)) n (p + 1) (M0 2 p) + 1 : Nat) : Int)) 2 j) = (fun j => M0 2 j) from funext (fun j => (up2_ne (by omega)).trans (hr2 j))]
                  refine go_ret dX7_readClause_130 rfl ⟨rfl, ?_⟩
                  rw [mClause] at hQ
                  first | (rw [if_pos (by omega)] at hQ; exact hQ) | (rw [if_neg (by omega), if_pos (by omega)] at hQ; exact hQ) | (rw [if_neg (by omega), if_neg (by omega), if_pos (by omega)] at hQ; exact hQ) | (rw [if_neg (by omega), if_neg (by omega), if_neg (by omega)] at hQ; exact hQ)
                · refine go_aload_n 2 dX7_readClause_106 rfl rfl ?_
                  refine go_iconst dX7_readClause_107 (by decide) ?_
                  refine go_aload_n 2 dX7_readClause_108 rfl rfl ?_
                  refine gx_getI (v := ((rsP (up2 M0 1 3 ((p + 1 : Nat) : Int)) n (p + 1) (M0 2 p) : Nat) : Int)) dX7_readClause_109 lk7_22.get kd_1 (by omega) rfl hr13 ?_
                  refine go_callVV (av := [vI 1, vI ((rsP (up2 M0 1 3 ((p + 1 : Nat) : Int)) n (p + 1) (M0 2 p) : Nat) : Int)]) (st := []) (a := 1) (mc2 := 0) (ms2 := 0) dX7_readClause_112 cw7_55 (by decide) rfl rfl (Nat.le_of_ble_eq_true rfl) rfl rfl kd_1 ⟨_, _, rfl⟩ (by decide) (by omega) (ok_X7_blame ?_)
                  refine go_ret dX7_readClause_115 rfl ⟨rfl, ?_⟩
                  rw [mClause] at hQ
                  first | (rw [if_pos (by omega)] at hQ; exact hQ) | (rw [if_neg (by omega), if_pos (by omega)] at hQ; exact hQ) | (rw [if_neg (by omega), if_neg (by omega), if_pos (by omega)] at hQ; exact hQ) | (rw [if_neg (by omega), if_neg (by omega), if_neg (by omega)] at hQ; exact hQ)
              · skip
                refine go_bipush dX7_readClause_101 (by decide) (by decide) ?_
                refine go_icmp_eq (tgt := 116) dX7_readClause_103 rfl (fun c120 => ?_) (fun c120 => ?_)
                · exact absurd c120 (by decide)
                · refine go_aload_n 2 dX7_readClause_106 rfl rfl ?_
                  refine go_iconst dX7_readClause_107 (by decide) ?_
                  refine go_aload_n 2 dX7_readClause_108 rfl rfl ?_
                  refine gx_getI (v := ((rsP (up2 M0 1 3 ((p + 1 : Nat) : Int)) n (p + 1) (M0 2 p) : Nat) : Int)) dX7_readClause_109 lk7_22.get kd_1 (by omega) rfl hr13 ?_
                  refine go_callVV (av := [vI 1, vI ((rsP (up2 M0 1 3 ((p + 1 : Nat) : Int)) n (p + 1) (M0 2 p) : Nat) : Int)]) (st := []) (a := 1) (mc2 := 0) (ms2 := 0) dX7_readClause_112 cw7_55 (by decide) rfl rfl (Nat.le_of_ble_eq_true rfl) rfl rfl kd_1 ⟨_, _, rfl⟩ (by decide) (by omega) (ok_X7_blame ?_)
                  refine go_ret dX7_readClause_115 rfl ⟨rfl, ?_⟩
                  rw [mClause] at hQ
                  first | (rw [if_pos (by omega)] at hQ; exact hQ) | (rw [if_neg (by omega), if_pos (by omega)] at hQ; exact hQ) | (rw [if_neg (by omega), if_neg (by omega), if_pos (by omega)] at hQ; exact hQ) | (rw [if_neg (by omega), if_neg (by omega), if_neg (by omega)] at hQ; exact hQ)
            · refine go_aload_n 2 dX7_readClause_71 rfl rfl ?_
              refine go_iconst dX7_readClause_72 (by decide) ?_
              refine go_aload_n 2 dX7_readClause_73 rfl rfl ?_
              refine gx_getI (v := ((p : Nat) : Int)) dX7_readClause_74 lk7_22.get kd_1 (by omega) rfl hp ?_
              refine go_callVV (av := [vI 3, vI ((p : Nat) : Int)]) (st := []) (a := 1) (mc2 := 0) (ms2 := 0) dX7_readClause_77 cw7_55 (by decide) rfl rfl (Nat.le_of_ble_eq_true rfl) rfl rfl kd_1 ⟨_, _, rfl⟩ (by decide) (by omega) (ok_X7_blame ?_)
              refine go_ret dX7_readClause_80 rfl ⟨rfl, ?_⟩
              rw [mClause] at hQ
              first | (rw [if_pos (by omega)] at hQ; exact hQ) | (rw [if_neg (by omega), if_pos (by omega)] at hQ; exact hQ) | (rw [if_neg (by omega), if_neg (by omega), if_pos (by omega)] at hQ; exact hQ) | (rw [if_neg (by omega), if_neg (by omega), if_neg (by omega)] at hQ; exact hQ)
          · refine go_aload_n 3 dX7_readClause_45 rfl rfl ?_
            refine gx_getI (v := (M0 v 1)) dX7_readClause_46 lk7_52.get hv.k0 hv.l0 rfl rfl ?_
            refine go_iconst dX7_readClause_49 (by decide) ?_
            refine go_icmp_ne (tgt := 63) dX7_readClause_50 rfl (fun c17 => ?_) (fun c17 => ?_)
            · refine go_aload_n 3 dX7_readClause_63 rfl rfl ?_
              refine go_iload_n 1 dX7_readClause_64 rfl rfl ?_
              refine go_callVI (av := [vI (M0 2 p)]) (st := []) (a := v) (mc2 := 0) (ms2 := 0) dX7_readClause_65 cw7_59 (by decide) rfl rfl (Nat.le_of_ble_eq_true rfl) rfl rfl hv.k0 ⟨_, _, rfl⟩ (by decide) hv.l0 (ok_X1_isFullOf hv ?_)
              refine go_if_eq (tgt := 81) dX7_readClause_68 rfl (fun c18 => ?_) (fun c18 => ?_)
              · have hf0 := full_0 (M := M0) (v := v) (c := (M0 2 p)) (by assumption)
                refine go_aload_n 2 dX7_readClause_81 rfl rfl ?_
                refine go_dup dX7_readClause_82 rfl ?_
                refine gx_getI (v := ((p : Nat) : Int)) dX7_readClause_83 lk7_22.get kd_1 (by omega) rfl hp ?_
                refine go_iconst dX7_readClause_86 (by decide) ?_
                refine gx_iadd (v := ((p + 1 : Nat) : Int)) dX7_readClause_87 (by omega) ⟨by omega, by omega⟩ ?_
                refine go_putI dX7_readClause_88 (Or.inl lk7_22) kd_1 (by omega) rfl (Or.inl rfl) ?_
                refine go_aload_n 2 dX7_readClause_91 rfl rfl ?_
                refine go_iload_n 1 dX7_readClause_92 rfl rfl ?_
                refine go_aload_n 3 dX7_readClause_93 rfl rfl ?_
                refine go_callVV (av := [vI (M0 2 p), vR v]) (st := []) (a := 1) (mc2 := 0) (ms2 := 0) dX7_readClause_94 cw7_63 (by decide) rfl rfl (Nat.le_of_ble_eq_true rfl) rfl rfl kd_1 ⟨_, _, rfl⟩ (by decide) (by omega) (ok_X7_readRest (n := n) (p := p + 1) (L := L) (E := E) (T := T) (M0 := (up2 M0 1 3 ((p + 1 : Nat) : Int))) hv ((up2_ne (by omega)).trans hn) up2_same h240 (by omega) (fun j hj => by rw [up2_ne (by omega)]; exact ht j hj) ⟨(up2_ne (by omega)).trans hL, fun q => by have := hf0.2.1 q; omega⟩ ⟨(up2_ne (by omega)).trans hE, fun q => by have := hf0.2.2.1 q; omega⟩ ⟨(up2_ne (by omega)).trans hT, fun q1 q2 q3 => by have := hf0.2.2.2 q1 q2 q3; omega⟩ ?_)
                have hrb := rsP_in (M0 := (up2 M0 1 3 ((p + 1 : Nat) : Int))) (n := n) (p := p + 1) (c := (M0 2 p)) (by omega)
                have hTT : T < 6 ∨ (M0 2 p) = 109 ∨ (M0 2 p) = 108 ∨ (M0 2 p) = 101 := by have := hf0.2.2.2; omega
                have hr12 : (mRest (up2 M0 1 3 ((p + 1 : Nat) : Int)) v n (p + 1) (M0 2 p) L E T) 1 2 = (n : Int) := (mRest_ne (by omega) hTT (by omega) (by omega) (by omega)).trans ((up2_ne (by omega)).trans hn)
                have hr13 : (mRest (up2 M0 1 3 ((p + 1 : Nat) : Int)) v n (p + 1) (M0 2 p) L E T) 1 3 = (((rsP (up2 M0 1 3 ((p + 1 : Nat) : Int)) n (p + 1) (M0 2 p)) : Nat) : Int) := mRest_at (by omega) (by omega)
                have hr2 : ∀ j, (mRest (up2 M0 1 3 ((p + 1 : Nat) : Int)) v n (p + 1) (M0 2 p) L E T) 2 j = M0 2 j := fun j => (mRest_ne (by omega) hTT (by omega) (by omega) (by omega)).trans (up2_ne (by omega))
                refine go_aload_n 2 dX7_readClause_97 rfl rfl ?_
                refine go_callVI (av := []) (st := []) (a := 1) (mc2 := 0) (ms2 := 0) dX7_readClause_98 cw7_48 (by decide) rfl rfl (Nat.le_of_ble_eq_true rfl) rfl rfl kd_1 ⟨_, _, rfl⟩ (by decide) (by omega) (ok_X7_here (n := n) (p := rsP (up2 M0 1 3 ((p + 1 : Nat) : Int)) n (p + 1) (M0 2 p)) (M := (mRest (up2 M0 1 3 ((p + 1 : Nat) : Int)) v n (p + 1) (M0 2 p) L E T)) hr12 hr13 h240 (by omega) (fun g119 => ?_) (fun g120 => ?_))
                · rw [show (mRest (up2 M0 1 3 ((p + 1 : Nat) : Int)) v n (p + 1) (M0 2 p) L E T) 2 (rsP (up2 M0 1 3 ((p + 1 : Nat) : Int)) n (p + 1) (M0 2 p)) = M0 2 (rsP (up2 M0 1 3 ((p + 1 : Nat) : Int)) n (p + 1) (M0 2 p)) from hr2 _]
                  refine go_bipush dX7_readClause_101 (by decide) (by decide) ?_
                  refine go_icmp_eq (tgt := 116) dX7_readClause_103 rfl (fun c121 => ?_) (fun c121 => ?_)
                  · refine go_aload_n 2 dX7_readClause_116 rfl rfl ?_
                    refine go_dup dX7_readClause_117 rfl ?_
                    refine gx_getI (v := ((rsP (up2 M0 1 3 ((p + 1 : Nat) : Int)) n (p + 1) (M0 2 p) : Nat) : Int)) dX7_readClause_118 lk7_22.get kd_1 (by omega) rfl hr13 ?_
                    refine go_iconst dX7_readClause_121 (by decide) ?_
                    refine gx_iadd (v := ((rsP (up2 M0 1 3 ((p + 1 : Nat) : Int)) n (p + 1) (M0 2 p) + 1 : Nat) : Int)) dX7_readClause_122 (by omega) ⟨by omega, by omega⟩ ?_
                    refine go_putI dX7_readClause_123 (Or.inl lk7_22) kd_1 (by omega) rfl (Or.inl rfl) ?_
                    refine go_aload_n 2 dX7_readClause_126 rfl rfl ?_
                    refine go_callVV (av := []) (st := []) (a := 1) (mc2 := 0) (ms2 := 0) dX7_readClause_127 cw7_37 (by decide) rfl rfl (Nat.le_of_ble_eq_true rfl) rfl rfl kd_1 ⟨_, _, rfl⟩ (by decide) (by omega) (ok_X7_skipBlanks (n := n) (p := rsP (up2 M0 1 3 ((p + 1 : Nat) : Int)) n (p + 1) (M0 2 p) + 1) (M := (up2 (mRest (up2 M0 1 3 ((p + 1 : Nat) : Int)) v n (p + 1) (M0 2 p) L E T) 1 3 ((rsP (up2 M0 1 3 ((p + 1 : Nat) : Int)) n (p + 1) (M0 2 p) + 1 : Nat) : Int))) ((up2_ne (by omega)).trans hr12) up2_same h240 (by omega) ?_)
                    rw [up2_up, show (fun j => (up2 (mRest (up2 M0 1 3 ((p + 1 : Nat) : Int)) v n (p + 1) (M0 2 p) L E T) 1 3 ((rsP (up2 M0 1 3 ((p + 1 : Nat) : Int)) n (p + 1) (M0 2 p) + 1 : Nat) : Int)) 2 j) = (fun j => M0 2 j) from funext (fun j => (up2_ne (by omega)).trans (hr2 j))]
                    refine go_ret dX7_readClause_130 rfl ⟨rfl, ?_⟩
                    rw [mClause] at hQ
                    first | (rw [if_pos (by omega)] at hQ; exact hQ) | (rw [if_neg (by omega), if_pos (by omega)] at hQ; exact hQ) | (rw [if_neg (by omega), if_neg (by omega), if_pos (by omega)] at hQ; exact hQ) | (rw [if_neg (by omega), if_neg (by omega), if_neg (by omega)] at hQ; exact hQ)
                  · refine go_aload_n 2 dX7_readClause_106 rfl rfl ?_
                    refine go_iconst dX7_readClause_107 (by decide) ?_
                    refine go_aload_n 2 dX7_readClause_108 rfl rfl ?_
                    refine gx_getI (v := ((rsP (up2 M0 1 3 ((p + 1 : Nat) : Int)) n (p + 1) (M0 2 p) : Nat) : Int)) dX7_readClause_109 lk7_22.get kd_1 (by omega) rfl hr13 ?_
                    refine go_callVV (av := [vI 1, vI ((rsP (up2 M0 1 3 ((p + 1 : Nat) : Int)) n (p + 1) (M0 2 p) : Nat) : Int)]) (st := []) (a := 1) (mc2 := 0) (ms2 := 0) dX7_readClause_112 cw7_55 (by decide) rfl rfl (Nat.le_of_ble_eq_true rfl) rfl rfl kd_1 ⟨_, _, rfl⟩ (by decide) (by omega) (ok_X7_blame ?_)
                    refine go_ret dX7_readClause_115 rfl ⟨rfl, ?_⟩
                    rw [mClause] at hQ
                    first | (rw [if_pos (by omega)] at hQ; exact hQ) | (rw [if_neg (by omega), if_pos (by omega)] at hQ; exact hQ) | (rw [if_neg (by omega), if_neg (by omega), if_pos (by omega)] at hQ; exact hQ) | (rw [if_neg (by omega), if_neg (by omega), if_neg (by omega)] at hQ; exact hQ)
                · skip
                  refine go_bipush dX7_readClause_101 (by decide) (by decide) ?_
                  refine go_icmp_eq (tgt := 116) dX7_readClause_103 rfl (fun c122 => ?_) (fun c122 => ?_)
                  · exact absurd c122 (by decide)
                  · refine go_aload_n 2 dX7_readClause_106 rfl rfl ?_
                    refine go_iconst dX7_readClause_107 (by decide) ?_
                    refine go_aload_n 2 dX7_readClause_108 rfl rfl ?_
                    refine gx_getI (v := ((rsP (up2 M0 1 3 ((p + 1 : Nat) : Int)) n (p + 1) (M0 2 p) : Nat) : Int)) dX7_readClause_109 lk7_22.get kd_1 (by omega) rfl hr13 ?_
                    refine go_callVV (av := [vI 1, vI ((rsP (up2 M0 1 3 ((p + 1 : Nat) : Int)) n (p + 1) (M0 2 p) : Nat) : Int)]) (st := []) (a := 1) (mc2 := 0) (ms2 := 0) dX7_readClause_112 cw7_55 (by decide) rfl rfl (Nat.le_of_ble_eq_true rfl) rfl rfl kd_1 ⟨_, _, rfl⟩ (by decide) (by omega) (ok_X7_blame ?_)
                    refine go_ret dX7_readClause_115 rfl ⟨rfl, ?_⟩
                    rw [mClause] at hQ
                    first | (rw [if_pos (by omega)] at hQ; exact hQ) | (rw [if_neg (by omega), if_pos (by omega)] at hQ; exact hQ) | (rw [if_neg (by omega), if_neg (by omega), if_pos (by omega)] at hQ; exact hQ) | (rw [if_neg (by omega), if_neg (by omega), if_neg (by omega)] at hQ; exact hQ)
              · refine go_aload_n 2 dX7_readClause_71 rfl rfl ?_
                refine go_iconst dX7_readClause_72 (by decide) ?_
                refine go_aload_n 2 dX7_readClause_73 rfl rfl ?_
                refine gx_getI (v := ((p : Nat) : Int)) dX7_readClause_74 lk7_22.get kd_1 (by omega) rfl hp ?_
                refine go_callVV (av := [vI 3, vI ((p : Nat) : Int)]) (st := []) (a := 1) (mc2 := 0) (ms2 := 0) dX7_readClause_77 cw7_55 (by decide) rfl rfl (Nat.le_of_ble_eq_true rfl) rfl rfl kd_1 ⟨_, _, rfl⟩ (by decide) (by omega) (ok_X7_blame ?_)
                refine go_ret dX7_readClause_80 rfl ⟨rfl, ?_⟩
                rw [mClause] at hQ
                first | (rw [if_pos (by omega)] at hQ; exact hQ) | (rw [if_neg (by omega), if_pos (by omega)] at hQ; exact hQ) | (rw [if_neg (by omega), if_neg (by omega), if_pos (by omega)] at hQ; exact hQ) | (rw [if_neg (by omega), if_neg (by omega), if_neg (by omega)] at hQ; exact hQ)
            · refine go_aload_n 2 dX7_readClause_53 rfl rfl ?_
              refine go_iconst dX7_readClause_54 (by decide) ?_
              refine go_aload_n 2 dX7_readClause_55 rfl rfl ?_
              refine gx_getI (v := ((p : Nat) : Int)) dX7_readClause_56 lk7_22.get kd_1 (by omega) rfl hp ?_
              refine go_callVV (av := [vI 1, vI ((p : Nat) : Int)]) (st := []) (a := 1) (mc2 := 0) (ms2 := 0) dX7_readClause_59 cw7_55 (by decide) rfl rfl (Nat.le_of_ble_eq_true rfl) rfl rfl kd_1 ⟨_, _, rfl⟩ (by decide) (by omega) (ok_X7_blame ?_)
              refine go_ret dX7_readClause_62 rfl ⟨rfl, ?_⟩
              rw [mClause] at hQ
              first | (rw [if_pos (by omega)] at hQ; exact hQ) | (rw [if_neg (by omega), if_pos (by omega)] at hQ; exact hQ) | (rw [if_neg (by omega), if_neg (by omega), if_pos (by omega)] at hQ; exact hQ) | (rw [if_neg (by omega), if_neg (by omega), if_neg (by omega)] at hQ; exact hQ)
      · refine go_iload_n 0 dX7_readClause_23 rfl rfl ?_
        refine go_bipush dX7_readClause_24 (by decide) (by decide) ?_
        refine go_icmp_ne (tgt := 33) dX7_readClause_26 rfl (fun c19 => ?_) (fun c19 => ?_)
        · refine go_iconst dX7_readClause_33 (by decide) ?_
          refine go_istore_n (lv' := [(3, vI 0), (2, vI (M0 2 p)), (0, vR 1), (1, vR v)]) dX7_readClause_34 rfl (by decide) rfl ?_
          refine go_iload_n 0 dX7_readClause_35 rfl rfl ?_
          refine go_if_eq (tgt := 53) dX7_readClause_36 rfl (fun c20 => ?_) (fun c20 => ?_)
          · refine go_aload_n 2 dX7_readClause_53 rfl rfl ?_
            refine go_iconst dX7_readClause_54 (by decide) ?_
            refine go_aload_n 2 dX7_readClause_55 rfl rfl ?_
            refine gx_getI (v := ((p : Nat) : Int)) dX7_readClause_56 lk7_22.get kd_1 (by omega) rfl hp ?_
            refine go_callVV (av := [vI 1, vI ((p : Nat) : Int)]) (st := []) (a := 1) (mc2 := 0) (ms2 := 0) dX7_readClause_59 cw7_55 (by decide) rfl rfl (Nat.le_of_ble_eq_true rfl) rfl rfl kd_1 ⟨_, _, rfl⟩ (by decide) (by omega) (ok_X7_blame ?_)
            refine go_ret dX7_readClause_62 rfl ⟨rfl, ?_⟩
            rw [mClause] at hQ
            first | (rw [if_pos (by omega)] at hQ; exact hQ) | (rw [if_neg (by omega), if_pos (by omega)] at hQ; exact hQ) | (rw [if_neg (by omega), if_neg (by omega), if_pos (by omega)] at hQ; exact hQ) | (rw [if_neg (by omega), if_neg (by omega), if_neg (by omega)] at hQ; exact hQ)
          · exact absurd c20 (by decide)
        · refine go_iconst dX7_readClause_29 (by decide) ?_
          refine go_goto (tgt := 34) dX7_readClause_30 rfl ?_
          refine go_istore_n (lv' := [(3, vI 1), (2, vI (M0 2 p)), (0, vR 1), (1, vR v)]) dX7_readClause_34 rfl (by decide) rfl ?_
          refine go_iload_n 0 dX7_readClause_35 rfl rfl ?_
          refine go_if_eq (tgt := 53) dX7_readClause_36 rfl (fun c21 => ?_) (fun c21 => ?_)
          · exact absurd c21 (by decide)
          · refine go_iload_n 1 dX7_readClause_39 rfl rfl ?_
            refine go_bipush dX7_readClause_40 (by decide) (by decide) ?_
            refine go_icmp_eq (tgt := 63) dX7_readClause_42 rfl (fun c22 => ?_) (fun c22 => ?_)
            · refine go_aload_n 3 dX7_readClause_63 rfl rfl ?_
              refine go_iload_n 1 dX7_readClause_64 rfl rfl ?_
              refine go_callVI (av := [vI (M0 2 p)]) (st := []) (a := v) (mc2 := 0) (ms2 := 0) dX7_readClause_65 cw7_59 (by decide) rfl rfl (Nat.le_of_ble_eq_true rfl) rfl rfl hv.k0 ⟨_, _, rfl⟩ (by decide) hv.l0 (ok_X1_isFullOf hv ?_)
              refine go_if_eq (tgt := 81) dX7_readClause_68 rfl (fun c23 => ?_) (fun c23 => ?_)
              · have hf0 := full_0 (M := M0) (v := v) (c := (M0 2 p)) (by assumption)
                refine go_aload_n 2 dX7_readClause_81 rfl rfl ?_
                refine go_dup dX7_readClause_82 rfl ?_
                refine gx_getI (v := ((p : Nat) : Int)) dX7_readClause_83 lk7_22.get kd_1 (by omega) rfl hp ?_
                refine go_iconst dX7_readClause_86 (by decide) ?_
                refine gx_iadd (v := ((p + 1 : Nat) : Int)) dX7_readClause_87 (by omega) ⟨by omega, by omega⟩ ?_
                refine go_putI dX7_readClause_88 (Or.inl lk7_22) kd_1 (by omega) rfl (Or.inl rfl) ?_
                refine go_aload_n 2 dX7_readClause_91 rfl rfl ?_
                refine go_iload_n 1 dX7_readClause_92 rfl rfl ?_
                refine go_aload_n 3 dX7_readClause_93 rfl rfl ?_
                refine go_callVV (av := [vI (M0 2 p), vR v]) (st := []) (a := 1) (mc2 := 0) (ms2 := 0) dX7_readClause_94 cw7_63 (by decide) rfl rfl (Nat.le_of_ble_eq_true rfl) rfl rfl kd_1 ⟨_, _, rfl⟩ (by decide) (by omega) (ok_X7_readRest (n := n) (p := p + 1) (L := L) (E := E) (T := T) (M0 := (up2 M0 1 3 ((p + 1 : Nat) : Int))) hv ((up2_ne (by omega)).trans hn) up2_same h240 (by omega) (fun j hj => by rw [up2_ne (by omega)]; exact ht j hj) ⟨(up2_ne (by omega)).trans hL, fun q => by have := hf0.2.1 q; omega⟩ ⟨(up2_ne (by omega)).trans hE, fun q => by have := hf0.2.2.1 q; omega⟩ ⟨(up2_ne (by omega)).trans hT, fun q1 q2 q3 => by have := hf0.2.2.2 q1 q2 q3; omega⟩ ?_)
                have hrb := rsP_in (M0 := (up2 M0 1 3 ((p + 1 : Nat) : Int))) (n := n) (p := p + 1) (c := (M0 2 p)) (by omega)
                have hTT : T < 6 ∨ (M0 2 p) = 109 ∨ (M0 2 p) = 108 ∨ (M0 2 p) = 101 := by have := hf0.2.2.2; omega
                have hr12 : (mRest (up2 M0 1 3 ((p + 1 : Nat) : Int)) v n (p + 1) (M0 2 p) L E T) 1 2 = (n : Int) := (mRest_ne (by omega) hTT (by omega) (by omega) (by omega)).trans ((up2_ne (by omega)).trans hn)
                have hr13 : (mRest (up2 M0 1 3 ((p + 1 : Nat) : Int)) v n (p + 1) (M0 2 p) L E T) 1 3 = (((rsP (up2 M0 1 3 ((p + 1 : Nat) : Int)) n (p + 1) (M0 2 p)) : Nat) : Int) := mRest_at (by omega) (by omega)
                have hr2 : ∀ j, (mRest (up2 M0 1 3 ((p + 1 : Nat) : Int)) v n (p + 1) (M0 2 p) L E T) 2 j = M0 2 j := fun j => (mRest_ne (by omega) hTT (by omega) (by omega) (by omega)).trans (up2_ne (by omega))
                refine go_aload_n 2 dX7_readClause_97 rfl rfl ?_
                refine go_callVI (av := []) (st := []) (a := 1) (mc2 := 0) (ms2 := 0) dX7_readClause_98 cw7_48 (by decide) rfl rfl (Nat.le_of_ble_eq_true rfl) rfl rfl kd_1 ⟨_, _, rfl⟩ (by decide) (by omega) (ok_X7_here (n := n) (p := rsP (up2 M0 1 3 ((p + 1 : Nat) : Int)) n (p + 1) (M0 2 p)) (M := (mRest (up2 M0 1 3 ((p + 1 : Nat) : Int)) v n (p + 1) (M0 2 p) L E T)) hr12 hr13 h240 (by omega) (fun g124 => ?_) (fun g125 => ?_))
                · rw [show (mRest (up2 M0 1 3 ((p + 1 : Nat) : Int)) v n (p + 1) (M0 2 p) L E T) 2 (rsP (up2 M0 1 3 ((p + 1 : Nat) : Int)) n (p + 1) (M0 2 p)) = M0 2 (rsP (up2 M0 1 3 ((p + 1 : Nat) : Int)) n (p + 1) (M0 2 p)) from hr2 _]
                  refine go_bipush dX7_readClause_101 (by decide) (by decide) ?_
                  refine go_icmp_eq (tgt := 116) dX7_readClause_103 rfl (fun c126 => ?_) (fun c126 => ?_)
                  · refine go_aload_n 2 dX7_readClause_116 rfl rfl ?_
                    refine go_dup dX7_readClause_117 rfl ?_
                    refine gx_getI (v := ((rsP (up2 M0 1 3 ((p + 1 : Nat) : Int)) n (p + 1) (M0 2 p) : Nat) : Int)) dX7_readClause_118 lk7_22.get kd_1 (by omega) rfl hr13 ?_
                    refine go_iconst dX7_readClause_121 (by decide) ?_
                    refine gx_iadd (v := ((rsP (up2 M0 1 3 ((p + 1 : Nat) : Int)) n (p + 1) (M0 2 p) + 1 : Nat) : Int)) dX7_readClause_122 (by omega) ⟨by omega, by omega⟩ ?_
                    refine go_putI dX7_readClause_123 (Or.inl lk7_22) kd_1 (by omega) rfl (Or.inl rfl) ?_
                    refine go_aload_n 2 dX7_readClause_126 rfl rfl ?_
                    refine go_callVV (av := []) (st := []) (a := 1) (mc2 := 0) (ms2 := 0) dX7_readClause_127 cw7_37 (by decide) rfl rfl (Nat.le_of_ble_eq_true rfl) rfl rfl kd_1 ⟨_, _, rfl⟩ (by decide) (by omega) (ok_X7_skipBlanks (n := n) (p := rsP (up2 M0 1 3 ((p + 1 : Nat) : Int)) n (p + 1) (M0 2 p) + 1) (M := (up2 (mRest (up2 M0 1 3 ((p + 1 : Nat) : Int)) v n (p + 1) (M0 2 p) L E T) 1 3 ((rsP (up2 M0 1 3 ((p + 1 : Nat) : Int)) n (p + 1) (M0 2 p) + 1 : Nat) : Int))) ((up2_ne (by omega)).trans hr12) up2_same h240 (by omega) ?_)
                    rw [up2_up, show (fun j => (up2 (mRest (up2 M0 1 3 ((p + 1 : Nat) : Int)) v n (p + 1) (M0 2 p) L E T) 1 3 ((rsP (up2 M0 1 3 ((p + 1 : Nat) : Int)) n (p + 1) (M0 2 p) + 1 : Nat) : Int)) 2 j) = (fun j => M0 2 j) from funext (fun j => (up2_ne (by omega)).trans (hr2 j))]
                    refine go_ret dX7_readClause_130 rfl ⟨rfl, ?_⟩
                    rw [mClause] at hQ
                    first | (rw [if_pos (by omega)] at hQ; exact hQ) | (rw [if_neg (by omega), if_pos (by omega)] at hQ; exact hQ) | (rw [if_neg (by omega), if_neg (by omega), if_pos (by omega)] at hQ; exact hQ) | (rw [if_neg (by omega), if_neg (by omega), if_neg (by omega)] at hQ; exact hQ)
                  · refine go_aload_n 2 dX7_readClause_106 rfl rfl ?_
                    refine go_iconst dX7_readClause_107 (by decide) ?_
                    refine go_aload_n 2 dX7_readClause_108 rfl rfl ?_
                    refine gx_getI (v := ((rsP (up2 M0 1 3 ((p + 1 : Nat) : Int)) n (p + 1) (M0 2 p) : Nat) : Int)) dX7_readClause_109 lk7_22.get kd_1 (by omega) rfl hr13 ?_
                    refine go_callVV (av := [vI 1, vI ((rsP (up2 M0 1 3 ((p + 1 : Nat) : Int)) n (p + 1) (M0 2 p) : Nat) : Int)]) (st := []) (a := 1) (mc2 := 0) (ms2 := 0) dX7_readClause_112 cw7_55 (by decide) rfl rfl (Nat.le_of_ble_eq_true rfl) rfl rfl kd_1 ⟨_, _, rfl⟩ (by decide) (by omega) (ok_X7_blame ?_)
                    refine go_ret dX7_readClause_115 rfl ⟨rfl, ?_⟩
                    rw [mClause] at hQ
                    first | (rw [if_pos (by omega)] at hQ; exact hQ) | (rw [if_neg (by omega), if_pos (by omega)] at hQ; exact hQ) | (rw [if_neg (by omega), if_neg (by omega), if_pos (by omega)] at hQ; exact hQ) | (rw [if_neg (by omega), if_neg (by omega), if_neg (by omega)] at hQ; exact hQ)
                · skip
                  refine go_bipush dX7_readClause_101 (by decide) (by decide) ?_
                  refine go_icmp_eq (tgt := 116) dX7_readClause_103 rfl (fun c127 => ?_) (fun c127 => ?_)
                  · exact absurd c127 (by decide)
                  · refine go_aload_n 2 dX7_readClause_106 rfl rfl ?_
                    refine go_iconst dX7_readClause_107 (by decide) ?_
                    refine go_aload_n 2 dX7_readClause_108 rfl rfl ?_
                    refine gx_getI (v := ((rsP (up2 M0 1 3 ((p + 1 : Nat) : Int)) n (p + 1) (M0 2 p) : Nat) : Int)) dX7_readClause_109 lk7_22.get kd_1 (by omega) rfl hr13 ?_
                    refine go_callVV (av := [vI 1, vI ((rsP (up2 M0 1 3 ((p + 1 : Nat) : Int)) n (p + 1) (M0 2 p) : Nat) : Int)]) (st := []) (a := 1) (mc2 := 0) (ms2 := 0) dX7_readClause_112 cw7_55 (by decide) rfl rfl (Nat.le_of_ble_eq_true rfl) rfl rfl kd_1 ⟨_, _, rfl⟩ (by decide) (by omega) (ok_X7_blame ?_)
                    refine go_ret dX7_readClause_115 rfl ⟨rfl, ?_⟩
                    rw [mClause] at hQ
                    first | (rw [if_pos (by omega)] at hQ; exact hQ) | (rw [if_neg (by omega), if_pos (by omega)] at hQ; exact hQ) | (rw [if_neg (by omega), if_neg (by omega), if_pos (by omega)] at hQ; exact hQ) | (rw [if_neg (by omega), if_neg (by omega), if_neg (by omega)] at hQ; exact hQ)
              · refine go_aload_n 2 dX7_readClause_71 rfl rfl ?_
                refine go_iconst dX7_readClause_72 (by decide) ?_
                refine go_aload_n 2 dX7_readClause_73 rfl rfl ?_
                refine gx_getI (v := ((p : Nat) : Int)) dX7_readClause_74 lk7_22.get kd_1 (by omega) rfl hp ?_
                refine go_callVV (av := [vI 3, vI ((p : Nat) : Int)]) (st := []) (a := 1) (mc2 := 0) (ms2 := 0) dX7_readClause_77 cw7_55 (by decide) rfl rfl (Nat.le_of_ble_eq_true rfl) rfl rfl kd_1 ⟨_, _, rfl⟩ (by decide) (by omega) (ok_X7_blame ?_)
                refine go_ret dX7_readClause_80 rfl ⟨rfl, ?_⟩
                rw [mClause] at hQ
                first | (rw [if_pos (by omega)] at hQ; exact hQ) | (rw [if_neg (by omega), if_pos (by omega)] at hQ; exact hQ) | (rw [if_neg (by omega), if_neg (by omega), if_pos (by omega)] at hQ; exact hQ) | (rw [if_neg (by omega), if_neg (by omega), if_neg (by omega)] at hQ; exact hQ)
            · refine go_aload_n 3 dX7_readClause_45 rfl rfl ?_
              refine gx_getI (v := (M0 v 1)) dX7_readClause_46 lk7_52.get hv.k0 hv.l0 rfl rfl ?_
              refine go_iconst dX7_readClause_49 (by decide) ?_
              refine go_icmp_ne (tgt := 63) dX7_readClause_50 rfl (fun c24 => ?_) (fun c24 => ?_)
              · refine go_aload_n 3 dX7_readClause_63 rfl rfl ?_
                refine go_iload_n 1 dX7_readClause_64 rfl rfl ?_
                refine go_callVI (av := [vI (M0 2 p)]) (st := []) (a := v) (mc2 := 0) (ms2 := 0) dX7_readClause_65 cw7_59 (by decide) rfl rfl (Nat.le_of_ble_eq_true rfl) rfl rfl hv.k0 ⟨_, _, rfl⟩ (by decide) hv.l0 (ok_X1_isFullOf hv ?_)
                refine go_if_eq (tgt := 81) dX7_readClause_68 rfl (fun c25 => ?_) (fun c25 => ?_)
                · have hf0 := full_0 (M := M0) (v := v) (c := (M0 2 p)) (by assumption)
                  refine go_aload_n 2 dX7_readClause_81 rfl rfl ?_
                  refine go_dup dX7_readClause_82 rfl ?_
                  refine gx_getI (v := ((p : Nat) : Int)) dX7_readClause_83 lk7_22.get kd_1 (by omega) rfl hp ?_
                  refine go_iconst dX7_readClause_86 (by decide) ?_
                  refine gx_iadd (v := ((p + 1 : Nat) : Int)) dX7_readClause_87 (by omega) ⟨by omega, by omega⟩ ?_
                  refine go_putI dX7_readClause_88 (Or.inl lk7_22) kd_1 (by omega) rfl (Or.inl rfl) ?_
                  refine go_aload_n 2 dX7_readClause_91 rfl rfl ?_
                  refine go_iload_n 1 dX7_readClause_92 rfl rfl ?_
                  refine go_aload_n 3 dX7_readClause_93 rfl rfl ?_
                  refine go_callVV (av := [vI (M0 2 p), vR v]) (st := []) (a := 1) (mc2 := 0) (ms2 := 0) dX7_readClause_94 cw7_63 (by decide) rfl rfl (Nat.le_of_ble_eq_true rfl) rfl rfl kd_1 ⟨_, _, rfl⟩ (by decide) (by omega) (ok_X7_readRest (n := n) (p := p + 1) (L := L) (E := E) (T := T) (M0 := (up2 M0 1 3 ((p + 1 : Nat) : Int))) hv ((up2_ne (by omega)).trans hn) up2_same h240 (by omega) (fun j hj => by rw [up2_ne (by omega)]; exact ht j hj) ⟨(up2_ne (by omega)).trans hL, fun q => by have := hf0.2.1 q; omega⟩ ⟨(up2_ne (by omega)).trans hE, fun q => by have := hf0.2.2.1 q; omega⟩ ⟨(up2_ne (by omega)).trans hT, fun q1 q2 q3 => by have := hf0.2.2.2 q1 q2 q3; omega⟩ ?_)
                  have hrb := rsP_in (M0 := (up2 M0 1 3 ((p + 1 : Nat) : Int))) (n := n) (p := p + 1) (c := (M0 2 p)) (by omega)
                  have hTT : T < 6 ∨ (M0 2 p) = 109 ∨ (M0 2 p) = 108 ∨ (M0 2 p) = 101 := by have := hf0.2.2.2; omega
                  have hr12 : (mRest (up2 M0 1 3 ((p + 1 : Nat) : Int)) v n (p + 1) (M0 2 p) L E T) 1 2 = (n : Int) := (mRest_ne (by omega) hTT (by omega) (by omega) (by omega)).trans ((up2_ne (by omega)).trans hn)
                  have hr13 : (mRest (up2 M0 1 3 ((p + 1 : Nat) : Int)) v n (p + 1) (M0 2 p) L E T) 1 3 = (((rsP (up2 M0 1 3 ((p + 1 : Nat) : Int)) n (p + 1) (M0 2 p)) : Nat) : Int) := mRest_at (by omega) (by omega)
                  have hr2 : ∀ j, (mRest (up2 M0 1 3 ((p + 1 : Nat) : Int)) v n (p + 1) (M0 2 p) L E T) 2 j = M0 2 j := fun j => (mRest_ne (by omega) hTT (by omega) (by omega) (by omega)).trans (up2_ne (by omega))
                  refine go_aload_n 2 dX7_readClause_97 rfl rfl ?_
                  refine go_callVI (av := []) (st := []) (a := 1) (mc2 := 0) (ms2 := 0) dX7_readClause_98 cw7_48 (by decide) rfl rfl (Nat.le_of_ble_eq_true rfl) rfl rfl kd_1 ⟨_, _, rfl⟩ (by decide) (by omega) (ok_X7_here (n := n) (p := rsP (up2 M0 1 3 ((p + 1 : Nat) : Int)) n (p + 1) (M0 2 p)) (M := (mRest (up2 M0 1 3 ((p + 1 : Nat) : Int)) v n (p + 1) (M0 2 p) L E T)) hr12 hr13 h240 (by omega) (fun g126 => ?_) (fun g127 => ?_))
                  · rw [show (mRest (up2 M0 1 3 ((p + 1 : Nat) : Int)) v n (p + 1) (M0 2 p) L E T) 2 (rsP (up2 M0 1 3 ((p + 1 : Nat) : Int)) n (p + 1) (M0 2 p)) = M0 2 (rsP (up2 M0 1 3 ((p + 1 : Nat) : Int)) n (p + 1) (M0 2 p)) from hr2 _]
                    refine go_bipush dX7_readClause_101 (by decide) (by decide) ?_
                    refine go_icmp_eq (tgt := 116) dX7_readClause_103 rfl (fun c128 => ?_) (fun c128 => ?_)
                    · refine go_aload_n 2 dX7_readClause_116 rfl rfl ?_
                      refine go_dup dX7_readClause_117 rfl ?_
                      refine gx_getI (v := ((rsP (up2 M0 1 3 ((p + 1 : Nat) : Int)) n (p + 1) (M0 2 p) : Nat) : Int)) dX7_readClause_118 lk7_22.get kd_1 (by omega) rfl hr13 ?_
                      refine go_iconst dX7_readClause_121 (by decide) ?_
                      refine gx_iadd (v := ((rsP (up2 M0 1 3 ((p + 1 : Nat) : Int)) n (p + 1) (M0 2 p) + 1 : Nat) : Int)) dX7_readClause_122 (by omega) ⟨by omega, by omega⟩ ?_
                      refine go_putI dX7_readClause_123 (Or.inl lk7_22) kd_1 (by omega) rfl (Or.inl rfl) ?_
                      refine go_aload_n 2 dX7_readClause_126 rfl rfl ?_
                      refine go_callVV (av := []) (st := []) (a := 1) (mc2 := 0) (ms2 := 0) dX7_readClause_127 cw7_37 (by decide) rfl rfl (Nat.le_of_ble_eq_true rfl) rfl rfl kd_1 ⟨_, _, rfl⟩ (by decide) (by omega) (ok_X7_skipBlanks (n := n) (p := rsP (up2 M0 1 3 ((p + 1 : Nat) : Int)) n (p + 1) (M0 2 p) + 1) (M := (up2 (mRest (up2 M0 1 3 ((p + 1 : Nat) : Int)) v n (p + 1) (M0 2 p) L E T) 1 3 ((rsP (up2 M0 1 3 ((p + 1 : Nat) : Int)) n (p + 1) (M0 2 p) + 1 : Nat) : Int))) ((up2_ne (by omega)).trans hr12) up2_same h240 (by omega) ?_)
                      rw [up2_up, show (fun j => (up2 (mRest (up2 M0 1 3 ((p + 1 : Nat) : Int)) v n (p + 1) (M0 2 p) L E T) 1 3 ((rsP (up2 M0 1 3 ((p + 1 : Nat) : Int)) n (p + 1) (M0 2 p) + 1 : Nat) : Int)) 2 j) = (fun j => M0 2 j) from funext (fun j => (up2_ne (by omega)).trans (hr2 j))]
                      refine go_ret dX7_readClause_130 rfl ⟨rfl, ?_⟩
                      rw [mClause] at hQ
                      first | (rw [if_pos (by omega)] at hQ; exact hQ) | (rw [if_neg (by omega), if_pos (by omega)] at hQ; exact hQ) | (rw [if_neg (by omega), if_neg (by omega), if_pos (by omega)] at hQ; exact hQ) | (rw [if_neg (by omega), if_neg (by omega), if_neg (by omega)] at hQ; exact hQ)
                    · refine go_aload_n 2 dX7_readClause_106 rfl rfl ?_
                      refine go_iconst dX7_readClause_107 (by decide) ?_
                      refine go_aload_n 2 dX7_readClause_108 rfl rfl ?_
                      refine gx_getI (v := ((rsP (up2 M0 1 3 ((p + 1 : Nat) : Int)) n (p + 1) (M0 2 p) : Nat) : Int)) dX7_readClause_109 lk7_22.get kd_1 (by omega) rfl hr13 ?_
                      refine go_callVV (av := [vI 1, vI ((rsP (up2 M0 1 3 ((p + 1 : Nat) : Int)) n (p + 1) (M0 2 p) : Nat) : Int)]) (st := []) (a := 1) (mc2 := 0) (ms2 := 0) dX7_readClause_112 cw7_55 (by decide) rfl rfl (Nat.le_of_ble_eq_true rfl) rfl rfl kd_1 ⟨_, _, rfl⟩ (by decide) (by omega) (ok_X7_blame ?_)
                      refine go_ret dX7_readClause_115 rfl ⟨rfl, ?_⟩
                      rw [mClause] at hQ
                      first | (rw [if_pos (by omega)] at hQ; exact hQ) | (rw [if_neg (by omega), if_pos (by omega)] at hQ; exact hQ) | (rw [if_neg (by omega), if_neg (by omega), if_pos (by omega)] at hQ; exact hQ) | (rw [if_neg (by omega), if_neg (by omega), if_neg (by omega)] at hQ; exact hQ)
                  · skip
                    refine go_bipush dX7_readClause_101 (by decide) (by decide) ?_
                    refine go_icmp_eq (tgt := 116) dX7_readClause_103 rfl (fun c129 => ?_) (fun c129 => ?_)
                    · exact absurd c129 (by decide)
                    · refine go_aload_n 2 dX7_readClause_106 rfl rfl ?_
                      refine go_iconst dX7_readClause_107 (by decide) ?_
                      refine go_aload_n 2 dX7_readClause_108 rfl rfl ?_
                      refine gx_getI (v := ((rsP (up2 M0 1 3 ((p + 1 : Nat) : Int)) n (p + 1) (M0 2 p) : Nat) : Int)) dX7_readClause_109 lk7_22.get kd_1 (by omega) rfl hr13 ?_
                      refine go_callVV (av := [vI 1, vI ((rsP (up2 M0 1 3 ((p + 1 : Nat) : Int)) n (p + 1) (M0 2 p) : Nat) : Int)]) (st := []) (a := 1) (mc2 := 0) (ms2 := 0) dX7_readClause_112 cw7_55 (by decide) rfl rfl (Nat.le_of_ble_eq_true rfl) rfl rfl kd_1 ⟨_, _, rfl⟩ (by decide) (by omega) (ok_X7_blame ?_)
                      refine go_ret dX7_readClause_115 rfl ⟨rfl, ?_⟩
                      rw [mClause] at hQ
                      first | (rw [if_pos (by omega)] at hQ; exact hQ) | (rw [if_neg (by omega), if_pos (by omega)] at hQ; exact hQ) | (rw [if_neg (by omega), if_neg (by omega), if_pos (by omega)] at hQ; exact hQ) | (rw [if_neg (by omega), if_neg (by omega), if_neg (by omega)] at hQ; exact hQ)
                · refine go_aload_n 2 dX7_readClause_71 rfl rfl ?_
                  refine go_iconst dX7_readClause_72 (by decide) ?_
                  refine go_aload_n 2 dX7_readClause_73 rfl rfl ?_
                  refine gx_getI (v := ((p : Nat) : Int)) dX7_readClause_74 lk7_22.get kd_1 (by omega) rfl hp ?_
                  refine go_callVV (av := [vI 3, vI ((p : Nat) : Int)]) (st := []) (a := 1) (mc2 := 0) (ms2 := 0) dX7_readClause_77 cw7_55 (by decide) rfl rfl (Nat.le_of_ble_eq_true rfl) rfl rfl kd_1 ⟨_, _, rfl⟩ (by decide) (by omega) (ok_X7_blame ?_)
                  refine go_ret dX7_readClause_80 rfl ⟨rfl, ?_⟩
                  rw [mClause] at hQ
                  first | (rw [if_pos (by omega)] at hQ; exact hQ) | (rw [if_neg (by omega), if_pos (by omega)] at hQ; exact hQ) | (rw [if_neg (by omega), if_neg (by omega), if_pos (by omega)] at hQ; exact hQ) | (rw [if_neg (by omega), if_neg (by omega), if_neg (by omega)] at hQ; exact hQ)
              · refine go_aload_n 2 dX7_readClause_53 rfl rfl ?_
                refine go_iconst dX7_readClause_54 (by decide) ?_
                refine go_aload_n 2 dX7_readClause_55 rfl rfl ?_
                refine gx_getI (v := ((p : Nat) : Int)) dX7_readClause_56 lk7_22.get kd_1 (by omega) rfl hp ?_
                refine go_callVV (av := [vI 1, vI ((p : Nat) : Int)]) (st := []) (a := 1) (mc2 := 0) (ms2 := 0) dX7_readClause_59 cw7_55 (by decide) rfl rfl (Nat.le_of_ble_eq_true rfl) rfl rfl kd_1 ⟨_, _, rfl⟩ (by decide) (by omega) (ok_X7_blame ?_)
                refine go_ret dX7_readClause_62 rfl ⟨rfl, ?_⟩
                rw [mClause] at hQ
                first | (rw [if_pos (by omega)] at hQ; exact hQ) | (rw [if_neg (by omega), if_pos (by omega)] at hQ; exact hQ) | (rw [if_neg (by omega), if_neg (by omega), if_pos (by omega)] at hQ; exact hQ) | (rw [if_neg (by omega), if_neg (by omega), if_neg (by omega)] at hQ; exact hQ)

