/-! ===== the reference: types, clauses read ===== -/
set_option maxHeartbeats 4000000 in
set_option maxRecDepth 100000 in
theorem lp_X10_takeType {w n p Y : Nat} {T : Nat → Int} {M : inm} {Q : Int → Nat → rfm → inm → Prop} (hT : (fun j => M 290 j) = T) (hn : M 279 18 = (n : Int)) (hp : M 279 20 = (p : Int)) (h240 : n ≤ 240) (hpn : p ≤ n) (ht : ∀ j, j < n → 0 ≤ T j ∧ T j ≤ 255) (hY : M 279 30 = (Y : Int) ∧ Y < 6) (gF : ¬ bdF T n p 116 = 0 → ∀ M' : inm, Fr M M' → M' 279 19 = ((bdB T n p 116 : Nat) : Int) → Q (bdF T n p 116) 303 (PP w) M') (gS : bdF T n p 116 = 0 → ∀ M' : inm, DS M M' T n p 116 0 0 Y → Q 0 303 (PP w) M') : ∀ d c, c + d = 8 → 0 < d → ∀ M' : inm, (∀ x j, ¬ ((x = 279 ∧ 20 ≤ j ∧ j ≤ 22) ∨ (x = 296 ∧ 8 * Y ≤ j ∧ j < 8 * Y + c)) → M' x j = M x j) → M' 279 20 = (((posI T n p c) : Nat) : Int) → (∀ i, i < c → M' 296 (8 * Y + i) = nV T n (posI T n p i)) → (∀ i, i < c → OkC T n p i) → Go S0 yX10_takeType cX10_takeType 4 2 0 0 (some .int) 6 [(1, vI ((c : Nat) : Int)), (2, vI 0), (3, vI 1), (0, vR 279)] [] 303 (PP w) M' (fun v n P M => ∃ z, v = some (vI z) ∧ Q z n P M) := by
  intro d
  induction d with
  | zero => intro c h1 h2; exfalso; omega
  | succ d ih =>
    intro c h1 h2 M' hq h20 hv hok
    have hqf : Fr M M' := fun x j a b => hq x j (by omega)
    have hpo := posI_in (T := T) hpn c hok
    refine go_iload_n 2 dX10_takeType_6 rfl rfl ?_
    refine go_if_eq (tgt := 88) dX10_takeType_7 rfl (fun c1 => ?_) (fun c1 => ?_)
    · exact absurd c1 (by decide)
    · refine go_iload_n 1 dX10_takeType_10 rfl rfl ?_
      refine go_if_ne (tgt := 88) dX10_takeType_11 rfl (fun c2 => ?_) (fun c2 => ?_)
      · exact absurd c2 (by decide)
      · refine go_aload_n 3 dX10_takeType_14 rfl rfl ?_
        refine go_iconst dX10_takeType_15 (by decide) ?_
        refine go_iconst dX10_takeType_16 (by decide) ?_
        refine go_callVI (av := [vI 0, vI 4]) (st := []) (a := 279) (mc2 := 0) (ms2 := 0) dX10_takeType_17 cw10_122 (by decide) rfl rfl (Nat.le_of_ble_eq_true rfl) rfl rfl kd_279 ⟨_, _, rfl⟩ (by decide) (by omega) (tn_T (n := n) (p := posI T n p c) (T := T) (M := M') ((funext (fun j => (hq _ _ (by omega)))).trans hT) (((hq _ _ (by omega))).trans hn) h20 h240 (by omega) ht (fun q4 N3 q5 q6 => ?_) (fun q4 N3 q7 q8 q9 => ?_))
        · have q10 := numE_in (T := T) (n := n) (p := posI T n p c) (by omega)
          have q10b := nF_in (T := T) (n := n) (p := posI T n p c) (lo := 0) (hi := 4)
          refine go_istore_n (lv' := [(2, vI (nF T n (posI T n p c) 0 4)), (1, vI ((c : Nat) : Int)), (3, vI 1), (0, vR 279)]) dX10_takeType_20 rfl (by decide) rfl ?_
          refine go_aload_n 3 dX10_takeType_21 rfl rfl ?_
          refine go_getR (r := 296) dX10_takeType_22 lk10_62.get kd_279 (by omega) rfl (pp_279_32 w) ?_
          refine go_bipush dX10_takeType_25 (by decide) (by decide) ?_
          refine go_aload_n 3 dX10_takeType_27 rfl rfl ?_
          refine gx_getI (v := ((Y : Nat) : Int)) dX10_takeType_28 lk10_134.get kd_279 (by omega) rfl (((q5 _ _ (by omega))).trans ((((hq _ _ (by omega))).trans hY.1))) ?_
          refine gx_imul (v := ((8 * Y : Nat) : Int)) dX10_takeType_31 (by omega) ⟨by omega, by omega⟩ ?_
          refine go_iload_n 1 dX10_takeType_32 rfl rfl ?_
          refine gx_iadd (v := (((8 * Y) + c : Nat) : Int)) dX10_takeType_33 (by omega) ⟨by omega, by omega⟩ ?_
          refine go_aload_n 3 dX10_takeType_34 rfl rfl ?_
          refine gx_getI (v := (N3 279 21)) dX10_takeType_35 lk10_119.get kd_279 (by omega) rfl rfl ?_
          refine gx_iastore ((8 * Y) + c) dX10_takeType_38 kd_296 (by omega) ln_296 rfl (by omega) ?_
          refine gx_iinc (v := ((c + 1 : Nat) : Int)) (lv' := [(1, vI ((c + 1 : Nat) : Int)), (2, vI (nF T n (posI T n p c) 0 4)), (3, vI 1), (0, vR 279)]) 1 dX10_takeType_39 rfl (by omega) ⟨by omega, by omega⟩ (by decide) rfl ?_
          refine go_iload_n 1 dX10_takeType_42 rfl rfl ?_
          refine go_if_ne (tgt := 65) dX10_takeType_43 rfl (fun c11 => ?_) (fun c11 => ?_)
          · refine go_iconst dX10_takeType_65 (by decide) ?_
            refine go_istore_n (lv' := [(3, vI 0), (1, vI ((c + 1 : Nat) : Int)), (2, vI (nF T n (posI T n p c) 0 4)), (0, vR 279)]) dX10_takeType_66 rfl (by decide) rfl ?_
            refine go_aload_n 3 dX10_takeType_67 rfl rfl ?_
            refine go_dup dX10_takeType_68 rfl ?_
            refine gx_getI (v := (N3 279 20)) dX10_takeType_69 lk10_101.get kd_279 (by omega) rfl (up2_ne (by omega)) ?_
            refine go_iload_n 0 dX10_takeType_72 rfl rfl ?_
            refine go_if_eq (tgt := 80) dX10_takeType_73 rfl (fun c12 => ?_) (fun c12 => ?_)
            · refine go_iconst dX10_takeType_80 (by decide) ?_
              refine go_iaddW dX10_takeType_81 ?_
              refine go_putI dX10_takeType_82 (Or.inl lk10_101) kd_279 (by omega) rfl (Or.inl rfl) ?_
              refine go_goto (tgt := 6) dX10_takeType_85 rfl ?_
              refine go_iload_n 0 dX10_takeType_6 rfl rfl ?_
              refine go_if_eq (tgt := 88) dX10_takeType_7 rfl (fun c13 => ?_) (fun c13 => ?_)
              · refine go_aload_n 3 dX10_takeType_88 rfl rfl ?_
                refine go_getR (r := 295) dX10_takeType_89 lk10_59.get kd_279 (by omega) rfl (pp_279_31 w) ?_
                refine go_aload_n 3 dX10_takeType_92 rfl rfl ?_
                refine gx_getI (v := ((Y : Nat) : Int)) dX10_takeType_93 lk10_134.get kd_279 (by omega) rfl ((up2_ne (by omega)).trans ((up2_ne (by omega)).trans (((q5 _ _ (by omega))).trans ((((hq _ _ (by omega))).trans hY.1))))) ?_
                refine go_iload_n 1 dX10_takeType_96 rfl rfl ?_
                refine gx_iastore Y dX10_takeType_97 kd_295 (by omega) ln_295 rfl (by omega) ?_
                refine go_aload_n 3 dX10_takeType_98 rfl rfl ?_
                refine go_dup dX10_takeType_99 rfl ?_
                refine gx_getI (v := ((Y : Nat) : Int)) dX10_takeType_100 lk10_134.get kd_279 (by omega) rfl ((up2_ne (by omega)).trans ((up2_ne (by omega)).trans ((up2_ne (by omega)).trans (((q5 _ _ (by omega))).trans ((((hq _ _ (by omega))).trans hY.1)))))) ?_
                refine go_iconst dX10_takeType_103 (by decide) ?_
                refine gx_iadd (v := ((Y + 1 : Nat) : Int)) dX10_takeType_104 (by omega) ⟨by omega, by omega⟩ ?_
                refine go_putI dX10_takeType_105 (Or.inl lk10_134) kd_279 (by omega) rfl (Or.inl rfl) ?_
                refine go_iload_n 2 dX10_takeType_108 rfl rfl ?_
                refine go_iret dX10_takeType_109 rfl rfl ⟨_, rfl, ?_⟩
                have hnp : numP T n (posI T n p c) = skp T n (numE T n (posI T n p c)) := rfl
                have htl : tyL T n p = c := tyC_eq (by omega) hok (fun hh => by have h2 := hh.2.1; have h3 := hh.2.2.1; have h4 := hh.2.2.2; rw [hnp] at h3 h4; omega)
                have hb : bdF T n p 116 = nF T n (posI T n p c) 0 4 := by unfold bdF; rw [if_neg (by decide), if_neg (by decide), if_neg (by decide), htl]
                have hb2 : bdB T n p 116 = numB T n (posI T n p c) := by unfold bdB; rw [if_neg (by decide), if_neg (by decide), if_neg (by decide), htl]
                rw [hb, hb2] at gF
                exact gF (by omega) _ (((((hqf.trans q5.fr).up (by omega)).up (by omega)).up (by omega)).up (by omega)) ((up2_ne (by omega)).trans ((up2_ne (by omega)).trans ((up2_ne (by omega)).trans ((up2_ne (by omega)).trans q6))))
              · exact absurd c13 (by decide)
            · exact absurd c12 (by decide)
          · exact absurd c11 (by omega)
        · have q10 := numE_in (T := T) (n := n) (p := posI T n p c) (by omega)
          have q10b := nF_in (T := T) (n := n) (p := posI T n p c) (lo := 0) (hi := 4)
          refine go_istore_n (lv' := [(2, vI 0), (1, vI ((c : Nat) : Int)), (3, vI 1), (0, vR 279)]) dX10_takeType_20 rfl (by decide) rfl ?_
          refine go_aload_n 3 dX10_takeType_21 rfl rfl ?_
          refine go_getR (r := 296) dX10_takeType_22 lk10_62.get kd_279 (by omega) rfl (pp_279_32 w) ?_
          refine go_bipush dX10_takeType_25 (by decide) (by decide) ?_
          refine go_aload_n 3 dX10_takeType_27 rfl rfl ?_
          refine gx_getI (v := ((Y : Nat) : Int)) dX10_takeType_28 lk10_134.get kd_279 (by omega) rfl (((q7 _ _ (by omega))).trans ((((hq _ _ (by omega))).trans hY.1))) ?_
          refine gx_imul (v := ((8 * Y : Nat) : Int)) dX10_takeType_31 (by omega) ⟨by omega, by omega⟩ ?_
          refine go_iload_n 1 dX10_takeType_32 rfl rfl ?_
          refine gx_iadd (v := (((8 * Y) + c : Nat) : Int)) dX10_takeType_33 (by omega) ⟨by omega, by omega⟩ ?_
          refine go_aload_n 3 dX10_takeType_34 rfl rfl ?_
          refine gx_getI (v := (nV T n (posI T n p c))) dX10_takeType_35 lk10_119.get kd_279 (by omega) rfl q9 ?_
          refine gx_iastore ((8 * Y) + c) dX10_takeType_38 kd_296 (by omega) ln_296 rfl (by omega) ?_
          refine gx_iinc (v := ((c + 1 : Nat) : Int)) (lv' := [(1, vI ((c + 1 : Nat) : Int)), (2, vI 0), (3, vI 1), (0, vR 279)]) 1 dX10_takeType_39 rfl (by omega) ⟨by omega, by omega⟩ (by decide) rfl ?_
          refine go_iload_n 1 dX10_takeType_42 rfl rfl ?_
          refine go_if_ne (tgt := 65) dX10_takeType_43 rfl (fun c14 => ?_) (fun c14 => ?_)
          · exact absurd c14 (by decide)
          · refine go_iload_n 0 dX10_takeType_46 rfl rfl ?_
            refine go_bipush dX10_takeType_47 (by decide) (by decide) ?_
            refine go_icmp_ge (tgt := 65) dX10_takeType_49 rfl (fun c15 => ?_) (fun c15 => ?_)
            · refine go_iconst dX10_takeType_65 (by decide) ?_
              refine go_istore_n (lv' := [(3, vI 0), (1, vI ((c + 1 : Nat) : Int)), (2, vI 0), (0, vR 279)]) dX10_takeType_66 rfl (by decide) rfl ?_
              refine go_aload_n 3 dX10_takeType_67 rfl rfl ?_
              refine go_dup dX10_takeType_68 rfl ?_
              refine gx_getI (v := ((numE T n (posI T n p c) : Nat) : Int)) dX10_takeType_69 lk10_101.get kd_279 (by omega) rfl ((up2_ne (by omega)).trans q8) ?_
              refine go_iload_n 0 dX10_takeType_72 rfl rfl ?_
              refine go_if_eq (tgt := 80) dX10_takeType_73 rfl (fun c16 => ?_) (fun c16 => ?_)
              · refine go_iconst dX10_takeType_80 (by decide) ?_
                refine gx_iadd (v := ((numE T n (posI T n p c) : Nat) : Int)) dX10_takeType_81 (by omega) ⟨by omega, by omega⟩ ?_
                refine go_putI dX10_takeType_82 (Or.inl lk10_101) kd_279 (by omega) rfl (Or.inl rfl) ?_
                refine go_goto (tgt := 6) dX10_takeType_85 rfl ?_
                refine go_iload_n 0 dX10_takeType_6 rfl rfl ?_
                refine go_if_eq (tgt := 88) dX10_takeType_7 rfl (fun c17 => ?_) (fun c17 => ?_)
                · refine go_aload_n 3 dX10_takeType_88 rfl rfl ?_
                  refine go_getR (r := 295) dX10_takeType_89 lk10_59.get kd_279 (by omega) rfl (pp_279_31 w) ?_
                  refine go_aload_n 3 dX10_takeType_92 rfl rfl ?_
                  refine gx_getI (v := ((Y : Nat) : Int)) dX10_takeType_93 lk10_134.get kd_279 (by omega) rfl ((up2_ne (by omega)).trans ((up2_ne (by omega)).trans (((q7 _ _ (by omega))).trans ((((hq _ _ (by omega))).trans hY.1))))) ?_
                  refine go_iload_n 1 dX10_takeType_96 rfl rfl ?_
                  refine gx_iastore Y dX10_takeType_97 kd_295 (by omega) ln_295 rfl (by omega) ?_
                  refine go_aload_n 3 dX10_takeType_98 rfl rfl ?_
                  refine go_dup dX10_takeType_99 rfl ?_
                  refine gx_getI (v := ((Y : Nat) : Int)) dX10_takeType_100 lk10_134.get kd_279 (by omega) rfl ((up2_ne (by omega)).trans ((up2_ne (by omega)).trans ((up2_ne (by omega)).trans (((q7 _ _ (by omega))).trans ((((hq _ _ (by omega))).trans hY.1)))))) ?_
                  refine go_iconst dX10_takeType_103 (by decide) ?_
                  refine gx_iadd (v := ((Y + 1 : Nat) : Int)) dX10_takeType_104 (by omega) ⟨by omega, by omega⟩ ?_
                  refine go_putI dX10_takeType_105 (Or.inl lk10_134) kd_279 (by omega) rfl (Or.inl rfl) ?_
                  refine go_iload_n 2 dX10_takeType_108 rfl rfl ?_
                  refine go_iret dX10_takeType_109 rfl rfl ⟨_, rfl, ?_⟩
                  have hnp : numP T n (posI T n p c) = skp T n (numE T n (posI T n p c)) := rfl
                  have htl : tyL T n p = c := tyC_eq (by omega) hok (fun hh => by have h2 := hh.2.1; have h3 := hh.2.2.1; have h4 := hh.2.2.2; rw [hnp] at h3 h4; omega)
                  have hb : bdF T n p 116 = 0 := by unfold bdF; rw [if_neg (by decide), if_neg (by decide), if_neg (by decide), htl]; assumption
                  exact gS hb _ ⟨(((((hqf.trans q7.fr).up (by omega)).up (by omega)).up (by omega)).up (by omega)), ((up2_ne (by omega)).trans ((up2_ne (by omega)).trans ((up2_ne (by omega)).trans ((up2_ne (by omega)).trans ((q7 _ _ (by omega)).trans (hq _ _ (by omega))))))), ⟨numE T n (posI T n p c), ((up2_ne (by omega)).trans ((up2_ne (by omega)).trans up2_same)), by omega, by unfold bdE; rw [if_neg (by decide), if_neg (by decide), htl]; rfl⟩, (by rw [if_neg (by decide)]; exact ((up2_ne (by omega)).trans ((up2_ne (by omega)).trans ((up2_ne (by omega)).trans ((up2_ne (by omega)).trans ((q7 _ _ (by omega)).trans (hq _ _ (by omega)))))))), (by rw [if_neg (by decide)]; exact ((up2_ne (by omega)).trans ((up2_ne (by omega)).trans ((up2_ne (by omega)).trans ((up2_ne (by omega)).trans ((q7 _ _ (by omega)).trans (hq _ _ (by omega)))))))), (by rw [if_neg (by decide)]; exact ((up2_ne (by omega)).trans ((up2_ne (by omega)).trans ((up2_ne (by omega)).trans ((up2_ne (by omega)).trans ((q7 _ _ (by omega)).trans (hq _ _ (by omega)))))))), (by rw [if_pos rfl]; exact up2_same), (fun j => by rw [if_neg (by omega)]; exact ((up2_ne (by omega)).trans ((up2_ne (by omega)).trans ((up2_ne (by omega)).trans ((up2_ne (by omega)).trans ((q7 _ _ (by omega)).trans (hq _ _ (by omega)))))))), (fun j => by rw [if_neg (by omega)]; exact ((up2_ne (by omega)).trans ((up2_ne (by omega)).trans ((up2_ne (by omega)).trans ((up2_ne (by omega)).trans ((q7 _ _ (by omega)).trans (hq _ _ (by omega)))))))), (fun j => by rw [if_neg (by omega)]; exact ((up2_ne (by omega)).trans ((up2_ne (by omega)).trans ((up2_ne (by omega)).trans ((up2_ne (by omega)).trans ((q7 _ _ (by omega)).trans (hq _ _ (by omega)))))))), (fun j => by rw [if_neg (by omega)]; exact ((up2_ne (by omega)).trans ((up2_ne (by omega)).trans ((up2_ne (by omega)).trans ((up2_ne (by omega)).trans ((q7 _ _ (by omega)).trans (hq _ _ (by omega)))))))), (fun j => by by_cases e : j = Y; (rw [if_pos ⟨rfl, e⟩, e, htl]; exact ((up2_ne (by omega)).trans up2_same)); (rw [if_neg (by omega)]; exact ((up2_ne (by omega)).trans ((up2_ne (by omega)).trans ((up2_ne (by omega)).trans ((up2_ne (by omega)).trans ((q7 _ _ (by omega)).trans (hq _ _ (by omega))))))))), (fun j hj => by have hj2 := hj rfl; exact ((up2_ne (by omega)).trans ((up2_ne (by omega)).trans ((up2_ne (by omega)).trans ((up2_ne (by omega)).trans ((q7 _ _ (by omega)).trans (hq _ _ (by omega)))))))), (fun _ i hi => by rw [htl] at hi; by_cases e : i = c; (rw [e]; exact ((up2_ne (by omega)).trans ((up2_ne (by omega)).trans ((up2_ne (by omega)).trans up2_same)))); exact (((up2_ne (by omega)).trans ((up2_ne (by omega)).trans ((up2_ne (by omega)).trans ((up2_ne (by omega)).trans (q7 _ _ (by omega))))))).trans (hv i (by omega)))⟩
                · exact absurd c17 (by decide)
              · exact absurd c16 (by decide)
            · refine go_aload_n 3 dX10_takeType_52 rfl rfl ?_
              refine go_callVI (av := []) (st := []) (a := 279) (mc2 := 0) (ms2 := 0) dX10_takeType_53 cw10_104 (by decide) rfl rfl (Nat.le_of_ble_eq_true rfl) rfl rfl kd_279 ⟨_, _, rfl⟩ (by decide) (by omega) (here_T (n := n) (p := numE T n (posI T n p c)) (T := T) (M := (up2 N3 296 ((8 * Y) + c) (nV T n (posI T n p c)))) ((funext (fun j => ((up2_ne (by omega)).trans ((q7 _ _ (by omega)).trans (hq _ _ (by omega)))))).trans hT) ((up2_ne (by omega)).trans (((q7 _ _ (by omega))).trans ((((hq _ _ (by omega))).trans hn)))) ((up2_ne (by omega)).trans q8) h240 (by omega) (fun q18 => ?_) (fun q19 => ?_))
              · have q18b := skp_in (T := T) (n := n) (p := numE T n (posI T n p c)) (by omega)
                refine go_bipush dX10_takeType_56 (by decide) (by decide) ?_
                refine go_icmp_ne (tgt := 65) dX10_takeType_58 rfl (fun c20 => ?_) (fun c20 => ?_)
                · refine go_iconst dX10_takeType_65 (by decide) ?_
                  refine go_istore_n (lv' := [(3, vI 0), (1, vI ((c + 1 : Nat) : Int)), (2, vI 0), (0, vR 279)]) dX10_takeType_66 rfl (by decide) rfl ?_
                  refine go_aload_n 3 dX10_takeType_67 rfl rfl ?_
                  refine go_dup dX10_takeType_68 rfl ?_
                  refine gx_getI (v := ((skp T n (numE T n (posI T n p c)) : Nat) : Int)) dX10_takeType_69 lk10_101.get kd_279 (by omega) rfl up2_same ?_
                  refine go_iload_n 0 dX10_takeType_72 rfl rfl ?_
                  refine go_if_eq (tgt := 80) dX10_takeType_73 rfl (fun c21 => ?_) (fun c21 => ?_)
                  · refine go_iconst dX10_takeType_80 (by decide) ?_
                    refine gx_iadd (v := ((skp T n (numE T n (posI T n p c)) : Nat) : Int)) dX10_takeType_81 (by omega) ⟨by omega, by omega⟩ ?_
                    refine go_putI dX10_takeType_82 (Or.inl lk10_101) kd_279 (by omega) rfl (Or.inl rfl) ?_
                    refine go_goto (tgt := 6) dX10_takeType_85 rfl ?_
                    refine go_iload_n 0 dX10_takeType_6 rfl rfl ?_
                    refine go_if_eq (tgt := 88) dX10_takeType_7 rfl (fun c22 => ?_) (fun c22 => ?_)
                    · refine go_aload_n 3 dX10_takeType_88 rfl rfl ?_
                      refine go_getR (r := 295) dX10_takeType_89 lk10_59.get kd_279 (by omega) rfl (pp_279_31 w) ?_
                      refine go_aload_n 3 dX10_takeType_92 rfl rfl ?_
                      refine gx_getI (v := ((Y : Nat) : Int)) dX10_takeType_93 lk10_134.get kd_279 (by omega) rfl ((up2_ne (by omega)).trans ((up2_ne (by omega)).trans ((up2_ne (by omega)).trans (((q7 _ _ (by omega))).trans ((((hq _ _ (by omega))).trans hY.1)))))) ?_
                      refine go_iload_n 1 dX10_takeType_96 rfl rfl ?_
                      refine gx_iastore Y dX10_takeType_97 kd_295 (by omega) ln_295 rfl (by omega) ?_
                      refine go_aload_n 3 dX10_takeType_98 rfl rfl ?_
                      refine go_dup dX10_takeType_99 rfl ?_
                      refine gx_getI (v := ((Y : Nat) : Int)) dX10_takeType_100 lk10_134.get kd_279 (by omega) rfl ((up2_ne (by omega)).trans ((up2_ne (by omega)).trans ((up2_ne (by omega)).trans ((up2_ne (by omega)).trans (((q7 _ _ (by omega))).trans ((((hq _ _ (by omega))).trans hY.1))))))) ?_
                      refine go_iconst dX10_takeType_103 (by decide) ?_
                      refine gx_iadd (v := ((Y + 1 : Nat) : Int)) dX10_takeType_104 (by omega) ⟨by omega, by omega⟩ ?_
                      refine go_putI dX10_takeType_105 (Or.inl lk10_134) kd_279 (by omega) rfl (Or.inl rfl) ?_
                      refine go_iload_n 2 dX10_takeType_108 rfl rfl ?_
                      refine go_iret dX10_takeType_109 rfl rfl ⟨_, rfl, ?_⟩
                      have hnp : numP T n (posI T n p c) = skp T n (numE T n (posI T n p c)) := rfl
                      have htl : tyL T n p = c := tyC_eq (by omega) hok (fun hh => by have h2 := hh.2.1; have h3 := hh.2.2.1; have h4 := hh.2.2.2; rw [hnp] at h3 h4; omega)
                      have hb : bdF T n p 116 = 0 := by unfold bdF; rw [if_neg (by decide), if_neg (by decide), if_neg (by decide), htl]; assumption
                      exact gS hb _ ⟨((((((hqf.trans q7.fr).up (by omega)).up (by omega)).up (by omega)).up (by omega)).up (by omega)), ((up2_ne (by omega)).trans ((up2_ne (by omega)).trans ((up2_ne (by omega)).trans ((up2_ne (by omega)).trans ((up2_ne (by omega)).trans ((q7 _ _ (by omega)).trans (hq _ _ (by omega)))))))), ⟨skp T n (numE T n (posI T n p c)), ((up2_ne (by omega)).trans ((up2_ne (by omega)).trans up2_same)), by omega, by unfold bdE; rw [if_neg (by decide), if_neg (by decide), htl]; exact skp_skp⟩, (by rw [if_neg (by decide)]; exact ((up2_ne (by omega)).trans ((up2_ne (by omega)).trans ((up2_ne (by omega)).trans ((up2_ne (by omega)).trans ((up2_ne (by omega)).trans ((q7 _ _ (by omega)).trans (hq _ _ (by omega))))))))), (by rw [if_neg (by decide)]; exact ((up2_ne (by omega)).trans ((up2_ne (by omega)).trans ((up2_ne (by omega)).trans ((up2_ne (by omega)).trans ((up2_ne (by omega)).trans ((q7 _ _ (by omega)).trans (hq _ _ (by omega))))))))), (by rw [if_neg (by decide)]; exact ((up2_ne (by omega)).trans ((up2_ne (by omega)).trans ((up2_ne (by omega)).trans ((up2_ne (by omega)).trans ((up2_ne (by omega)).trans ((q7 _ _ (by omega)).trans (hq _ _ (by omega))))))))), (by rw [if_pos rfl]; exact up2_same), (fun j => by rw [if_neg (by omega)]; exact ((up2_ne (by omega)).trans ((up2_ne (by omega)).trans ((up2_ne (by omega)).trans ((up2_ne (by omega)).trans ((up2_ne (by omega)).trans ((q7 _ _ (by omega)).trans (hq _ _ (by omega))))))))), (fun j => by rw [if_neg (by omega)]; exact ((up2_ne (by omega)).trans ((up2_ne (by omega)).trans ((up2_ne (by omega)).trans ((up2_ne (by omega)).trans ((up2_ne (by omega)).trans ((q7 _ _ (by omega)).trans (hq _ _ (by omega))))))))), (fun j => by rw [if_neg (by omega)]; exact ((up2_ne (by omega)).trans ((up2_ne (by omega)).trans ((up2_ne (by omega)).trans ((up2_ne (by omega)).trans ((up2_ne (by omega)).trans ((q7 _ _ (by omega)).trans (hq _ _ (by omega))))))))), (fun j => by rw [if_neg (by omega)]; exact ((up2_ne (by omega)).trans ((up2_ne (by omega)).trans ((up2_ne (by omega)).trans ((up2_ne (by omega)).trans ((up2_ne (by omega)).trans ((q7 _ _ (by omega)).trans (hq _ _ (by omega))))))))), (fun j => by by_cases e : j = Y; (rw [if_pos ⟨rfl, e⟩, e, htl]; exact ((up2_ne (by omega)).trans up2_same)); (rw [if_neg (by omega)]; exact ((up2_ne (by omega)).trans ((up2_ne (by omega)).trans ((up2_ne (by omega)).trans ((up2_ne (by omega)).trans ((up2_ne (by omega)).trans ((q7 _ _ (by omega)).trans (hq _ _ (by omega)))))))))), (fun j hj => by have hj2 := hj rfl; exact ((up2_ne (by omega)).trans ((up2_ne (by omega)).trans ((up2_ne (by omega)).trans ((up2_ne (by omega)).trans ((up2_ne (by omega)).trans ((q7 _ _ (by omega)).trans (hq _ _ (by omega))))))))), (fun _ i hi => by rw [htl] at hi; by_cases e : i = c; (rw [e]; exact ((up2_ne (by omega)).trans ((up2_ne (by omega)).trans ((up2_ne (by omega)).trans ((up2_ne (by omega)).trans up2_same))))); exact (((up2_ne (by omega)).trans ((up2_ne (by omega)).trans ((up2_ne (by omega)).trans ((up2_ne (by omega)).trans ((up2_ne (by omega)).trans (q7 _ _ (by omega)))))))).trans (hv i (by omega)))⟩
                    · exact absurd c22 (by decide)
                  · exact absurd c21 (by decide)
                · refine go_iconst dX10_takeType_61 (by decide) ?_
                  refine go_goto (tgt := 66) dX10_takeType_62 rfl ?_
                  refine go_istore_n (lv' := [(3, vI 1), (1, vI ((c + 1 : Nat) : Int)), (2, vI 0), (0, vR 279)]) dX10_takeType_66 rfl (by decide) rfl ?_
                  refine go_aload_n 3 dX10_takeType_67 rfl rfl ?_
                  refine go_dup dX10_takeType_68 rfl ?_
                  refine gx_getI (v := ((skp T n (numE T n (posI T n p c)) : Nat) : Int)) dX10_takeType_69 lk10_101.get kd_279 (by omega) rfl up2_same ?_
                  refine go_iload_n 0 dX10_takeType_72 rfl rfl ?_
                  refine go_if_eq (tgt := 80) dX10_takeType_73 rfl (fun c23 => ?_) (fun c23 => ?_)
                  · exact absurd c23 (by decide)
                  · refine go_iconst dX10_takeType_76 (by decide) ?_
                    refine go_goto (tgt := 81) dX10_takeType_77 rfl ?_
                    refine gx_iadd (v := ((skp T n (numE T n (posI T n p c)) + 1 : Nat) : Int)) dX10_takeType_81 (by omega) ⟨by omega, by omega⟩ ?_
                    refine go_putI dX10_takeType_82 (Or.inl lk10_101) kd_279 (by omega) rfl (Or.inl rfl) ?_
                    refine go_goto (tgt := 6) dX10_takeType_85 rfl ?_
                    refine go_lv [1, 2, 0, 3] rfl ?_
                    have hnp : numP T n (posI T n p c) = skp T n (numE T n (posI T n p c)) := rfl
                    exact ih (c + 1) (by omega) (by omega) _ (fun x j h => ((up2_ne (by omega)).trans ((up2_ne (by omega)).trans ((up2_ne (by omega)).trans ((q7 _ _ (by omega)).trans (hq _ _ (by omega))))))) up2_same (fun i hi => by by_cases e : i = c; (rw [e]; exact ((up2_ne (by omega)).trans ((up2_ne (by omega)).trans up2_same))); exact (((up2_ne (by omega)).trans ((up2_ne (by omega)).trans ((up2_ne (by omega)).trans (q7 _ _ (by omega)))))).trans (hv i (by omega))) (fun i hi => by by_cases e : i = c; (rw [e]; exact ⟨by assumption, by rw [hnp]; assumption, by rw [hnp]; assumption⟩); exact hok i (by omega))
              · have q19b := skp_in (T := T) (n := n) (p := numE T n (posI T n p c)) (by omega)
                refine go_bipush dX10_takeType_56 (by decide) (by decide) ?_
                refine go_icmp_ne (tgt := 65) dX10_takeType_58 rfl (fun c24 => ?_) (fun c24 => ?_)
                · refine go_iconst dX10_takeType_65 (by decide) ?_
                  refine go_istore_n (lv' := [(3, vI 0), (1, vI ((c + 1 : Nat) : Int)), (2, vI 0), (0, vR 279)]) dX10_takeType_66 rfl (by decide) rfl ?_
                  refine go_aload_n 3 dX10_takeType_67 rfl rfl ?_
                  refine go_dup dX10_takeType_68 rfl ?_
                  refine gx_getI (v := ((skp T n (numE T n (posI T n p c)) : Nat) : Int)) dX10_takeType_69 lk10_101.get kd_279 (by omega) rfl up2_same ?_
                  refine go_iload_n 0 dX10_takeType_72 rfl rfl ?_
                  refine go_if_eq (tgt := 80) dX10_takeType_73 rfl (fun c25 => ?_) (fun c25 => ?_)
                  · refine go_iconst dX10_takeType_80 (by decide) ?_
                    refine gx_iadd (v := ((skp T n (numE T n (posI T n p c)) : Nat) : Int)) dX10_takeType_81 (by omega) ⟨by omega, by omega⟩ ?_
                    refine go_putI dX10_takeType_82 (Or.inl lk10_101) kd_279 (by omega) rfl (Or.inl rfl) ?_
                    refine go_goto (tgt := 6) dX10_takeType_85 rfl ?_
                    refine go_iload_n 0 dX10_takeType_6 rfl rfl ?_
                    refine go_if_eq (tgt := 88) dX10_takeType_7 rfl (fun c26 => ?_) (fun c26 => ?_)
                    · refine go_aload_n 3 dX10_takeType_88 rfl rfl ?_
                      refine go_getR (r := 295) dX10_takeType_89 lk10_59.get kd_279 (by omega) rfl (pp_279_31 w) ?_
                      refine go_aload_n 3 dX10_takeType_92 rfl rfl ?_
                      refine gx_getI (v := ((Y : Nat) : Int)) dX10_takeType_93 lk10_134.get kd_279 (by omega) rfl ((up2_ne (by omega)).trans ((up2_ne (by omega)).trans ((up2_ne (by omega)).trans (((q7 _ _ (by omega))).trans ((((hq _ _ (by omega))).trans hY.1)))))) ?_
                      refine go_iload_n 1 dX10_takeType_96 rfl rfl ?_
                      refine gx_iastore Y dX10_takeType_97 kd_295 (by omega) ln_295 rfl (by omega) ?_
                      refine go_aload_n 3 dX10_takeType_98 rfl rfl ?_
                      refine go_dup dX10_takeType_99 rfl ?_
                      refine gx_getI (v := ((Y : Nat) : Int)) dX10_takeType_100 lk10_134.get kd_279 (by omega) rfl ((up2_ne (by omega)).trans ((up2_ne (by omega)).trans ((up2_ne (by omega)).trans ((up2_ne (by omega)).trans (((q7 _ _ (by omega))).trans ((((hq _ _ (by omega))).trans hY.1))))))) ?_
                      refine go_iconst dX10_takeType_103 (by decide) ?_
                      refine gx_iadd (v := ((Y + 1 : Nat) : Int)) dX10_takeType_104 (by omega) ⟨by omega, by omega⟩ ?_
                      refine go_putI dX10_takeType_105 (Or.inl lk10_134) kd_279 (by omega) rfl (Or.inl rfl) ?_
                      refine go_iload_n 2 dX10_takeType_108 rfl rfl ?_
                      refine go_iret dX10_takeType_109 rfl rfl ⟨_, rfl, ?_⟩
                      have hnp : numP T n (posI T n p c) = skp T n (numE T n (posI T n p c)) := rfl
                      have htl : tyL T n p = c := tyC_eq (by omega) hok (fun hh => by have h2 := hh.2.1; have h3 := hh.2.2.1; have h4 := hh.2.2.2; rw [hnp] at h3 h4; omega)
                      have hb : bdF T n p 116 = 0 := by unfold bdF; rw [if_neg (by decide), if_neg (by decide), if_neg (by decide), htl]; assumption
                      exact gS hb _ ⟨((((((hqf.trans q7.fr).up (by omega)).up (by omega)).up (by omega)).up (by omega)).up (by omega)), ((up2_ne (by omega)).trans ((up2_ne (by omega)).trans ((up2_ne (by omega)).trans ((up2_ne (by omega)).trans ((up2_ne (by omega)).trans ((q7 _ _ (by omega)).trans (hq _ _ (by omega)))))))), ⟨skp T n (numE T n (posI T n p c)), ((up2_ne (by omega)).trans ((up2_ne (by omega)).trans up2_same)), by omega, by unfold bdE; rw [if_neg (by decide), if_neg (by decide), htl]; exact skp_skp⟩, (by rw [if_neg (by decide)]; exact ((up2_ne (by omega)).trans ((up2_ne (by omega)).trans ((up2_ne (by omega)).trans ((up2_ne (by omega)).trans ((up2_ne (by omega)).trans ((q7 _ _ (by omega)).trans (hq _ _ (by omega))))))))), (by rw [if_neg (by decide)]; exact ((up2_ne (by omega)).trans ((up2_ne (by omega)).trans ((up2_ne (by omega)).trans ((up2_ne (by omega)).trans ((up2_ne (by omega)).trans ((q7 _ _ (by omega)).trans (hq _ _ (by omega))))))))), (by rw [if_neg (by decide)]; exact ((up2_ne (by omega)).trans ((up2_ne (by omega)).trans ((up2_ne (by omega)).trans ((up2_ne (by omega)).trans ((up2_ne (by omega)).trans ((q7 _ _ (by omega)).trans (hq _ _ (by omega))))))))), (by rw [if_pos rfl]; exact up2_same), (fun j => by rw [if_neg (by omega)]; exact ((up2_ne (by omega)).trans ((up2_ne (by omega)).trans ((up2_ne (by omega)).trans ((up2_ne (by omega)).trans ((up2_ne (by omega)).trans ((q7 _ _ (by omega)).trans (hq _ _ (by omega))))))))), (fun j => by rw [if_neg (by omega)]; exact ((up2_ne (by omega)).trans ((up2_ne (by omega)).trans ((up2_ne (by omega)).trans ((up2_ne (by omega)).trans ((up2_ne (by omega)).trans ((q7 _ _ (by omega)).trans (hq _ _ (by omega))))))))), (fun j => by rw [if_neg (by omega)]; exact ((up2_ne (by omega)).trans ((up2_ne (by omega)).trans ((up2_ne (by omega)).trans ((up2_ne (by omega)).trans ((up2_ne (by omega)).trans ((q7 _ _ (by omega)).trans (hq _ _ (by omega))))))))), (fun j => by rw [if_neg (by omega)]; exact ((up2_ne (by omega)).trans ((up2_ne (by omega)).trans ((up2_ne (by omega)).trans ((up2_ne (by omega)).trans ((up2_ne (by omega)).trans ((q7 _ _ (by omega)).trans (hq _ _ (by omega))))))))), (fun j => by by_cases e : j = Y; (rw [if_pos ⟨rfl, e⟩, e, htl]; exact ((up2_ne (by omega)).trans up2_same)); (rw [if_neg (by omega)]; exact ((up2_ne (by omega)).trans ((up2_ne (by omega)).trans ((up2_ne (by omega)).trans ((up2_ne (by omega)).trans ((up2_ne (by omega)).trans ((q7 _ _ (by omega)).trans (hq _ _ (by omega)))))))))), (fun j hj => by have hj2 := hj rfl; exact ((up2_ne (by omega)).trans ((up2_ne (by omega)).trans ((up2_ne (by omega)).trans ((up2_ne (by omega)).trans ((up2_ne (by omega)).trans ((q7 _ _ (by omega)).trans (hq _ _ (by omega))))))))), (fun _ i hi => by rw [htl] at hi; by_cases e : i = c; (rw [e]; exact ((up2_ne (by omega)).trans ((up2_ne (by omega)).trans ((up2_ne (by omega)).trans ((up2_ne (by omega)).trans up2_same))))); exact (((up2_ne (by omega)).trans ((up2_ne (by omega)).trans ((up2_ne (by omega)).trans ((up2_ne (by omega)).trans ((up2_ne (by omega)).trans (q7 _ _ (by omega)))))))).trans (hv i (by omega)))⟩
                    · exact absurd c26 (by decide)
                  · exact absurd c25 (by decide)
                · exact absurd c24 (by decide)

set_option maxHeartbeats 4000000 in
set_option maxRecDepth 100000 in
theorem ok_X10_takeType {w n p Y : Nat} {T : Nat → Int} {M : inm} {Q : Int → Nat → rfm → inm → Prop} (hT : (fun j => M 290 j) = T) (hn : M 279 18 = (n : Int)) (hp : M 279 20 = (p : Int)) (h240 : n ≤ 240) (hpn : p ≤ n) (ht : ∀ j, j < n → 0 ≤ T j ∧ T j ≤ 255) (hY : M 279 30 = (Y : Int) ∧ Y < 6) (gF : ¬ bdF T n p 116 = 0 → ∀ M' : inm, Fr M M' → M' 279 19 = ((bdB T n p 116 : Nat) : Int) → Q (bdF T n p 116) 303 (PP w) M') (gS : bdF T n p 116 = 0 → ∀ M' : inm, DS M M' T n p 116 0 0 Y → Q 0 303 (PP w) M') : OkI yX10_takeType cX10_takeType 4 2 0 0 (some .int) [vR 279] 303 (PP w) M Q := by
  refine OkI.of (by decide +kernel) (by decide +kernel) (Nat.le_of_ble_eq_true rfl) ?_
  refine go_eq (lv' := [(0, vR 279)]) rfl rfl rfl rfl rfl ?_
  refine go_iconst dX10_takeType_0 (by decide) ?_
  refine go_istore_n (lv' := [(1, vI 0), (0, vR 279)]) dX10_takeType_1 rfl (by decide) rfl ?_
  refine go_iconst dX10_takeType_2 (by decide) ?_
  refine go_istore_n (lv' := [(2, vI 0), (1, vI 0), (0, vR 279)]) dX10_takeType_3 rfl (by decide) rfl ?_
  refine go_iconst dX10_takeType_4 (by decide) ?_
  refine go_istore_n (lv' := [(3, vI 1), (2, vI 0), (1, vI 0), (0, vR 279)]) dX10_takeType_5 rfl (by decide) rfl ?_
  refine go_lv [2, 1, 0, 3] rfl ?_
  exact lp_X10_takeType hT hn hp h240 hpn ht hY gF gS 8 0 (by omega) (by omega) M (fun _ _ _ => rfl) hp (fun i hi => absurd hi (by omega)) (fun i hi => absurd hi (by omega))

set_option maxHeartbeats 4000000 in
set_option maxRecDepth 100000 in
theorem ok_X10_takeBody_0 {w n p : Nat} {T : Nat → Int} {M : inm} {Q : Int → Nat → rfm → inm → Prop} (hT : (fun j => M 290 j) = T) (hn : M 279 18 = (n : Int)) (hp : M 279 20 = (p : Int)) (h240 : n ≤ 240) (hpn : p ≤ n) (ht : ∀ j, j < n → 0 ≤ T j ∧ T j ≤ 255) (gF : ¬ bdF T n p 109 = 0 → ∀ M' : inm, Fr M M' → M' 279 19 = ((bdB T n p 109 : Nat) : Int) → Q (bdF T n p 109) 303 (PP w) M') (gS : bdF T n p 109 = 0 → ∀ M' : inm, DS M M' T n p 109 0 0 0 → Q 0 303 (PP w) M') : OkI yX10_takeBody cX10_takeBody 2 3 0 0 (some .int) [vR 279, vI 0] 303 (PP w) M Q := by
  refine OkI.of (by decide +kernel) (by decide +kernel) (Nat.le_of_ble_eq_true rfl) ?_
  refine go_eq (lv' := [(0, vR 279), (1, vI 0)]) rfl rfl rfl rfl rfl ?_
  refine go_iload_n 1 dX10_takeBody_0 rfl rfl ?_
  refine go_if_ne (tgt := 11) dX10_takeBody_1 rfl (fun c1 => ?_) (fun c1 => ?_)
  · exact absurd c1 (by decide)
  · refine go_aload_n 0 dX10_takeBody_4 rfl rfl ?_
    refine go_callVI (av := []) (st := []) (a := 279) (mc2 := 0) (ms2 := 0) dX10_takeBody_5 cw10_137 (by decide) rfl rfl (Nat.le_of_ble_eq_true rfl) rfl rfl kd_279 ⟨_, _, rfl⟩ (by decide) (by omega) (ok_X10_takeMiddle hT hn hp h240 hpn ht (fun hf M2 a b => ?_) (fun hf M2 d => ?_))
    · skip
      refine go_goto (tgt := 39) dX10_takeBody_8 rfl ?_
      refine go_iret dX10_takeBody_39 rfl rfl ⟨_, rfl, ?_⟩
      exact gF hf M2 a b
    · skip
      refine go_goto (tgt := 39) dX10_takeBody_8 rfl ?_
      refine go_iret dX10_takeBody_39 rfl rfl ⟨_, rfl, ?_⟩
      exact gS hf M2 d

set_option maxHeartbeats 4000000 in
set_option maxRecDepth 100000 in
theorem ok_X10_takeBody_1 {w n p L : Nat} {T : Nat → Int} {M : inm} {Q : Int → Nat → rfm → inm → Prop} (hT : (fun j => M 290 j) = T) (hn : M 279 18 = (n : Int)) (hp : M 279 20 = (p : Int)) (h240 : n ≤ 240) (hpn : p ≤ n) (ht : ∀ j, j < n → 0 ≤ T j ∧ T j ≤ 255) (hL : M 279 24 = (L : Int) ∧ L < 12) (gF : ¬ bdF T n p 108 = 0 → ∀ M' : inm, Fr M M' → M' 279 19 = ((bdB T n p 108 : Nat) : Int) → Q (bdF T n p 108) 303 (PP w) M') (gS : bdF T n p 108 = 0 → ∀ M' : inm, DS M M' T n p 108 L 0 0 → Q 0 303 (PP w) M') : OkI yX10_takeBody cX10_takeBody 2 3 0 0 (some .int) [vR 279, vI 1] 303 (PP w) M Q := by
  refine OkI.of (by decide +kernel) (by decide +kernel) (Nat.le_of_ble_eq_true rfl) ?_
  refine go_eq (lv' := [(0, vR 279), (1, vI 1)]) rfl rfl rfl rfl rfl ?_
  refine go_iload_n 1 dX10_takeBody_0 rfl rfl ?_
  refine go_if_ne (tgt := 11) dX10_takeBody_1 rfl (fun c1 => ?_) (fun c1 => ?_)
  · refine go_iload_n 1 dX10_takeBody_11 rfl rfl ?_
    refine go_iconst dX10_takeBody_12 (by decide) ?_
    refine go_icmp_ne (tgt := 23) dX10_takeBody_13 rfl (fun c2 => ?_) (fun c2 => ?_)
    · exact absurd c2 (by decide)
    · refine go_aload_n 0 dX10_takeBody_16 rfl rfl ?_
      refine go_callVI (av := []) (st := []) (a := 279) (mc2 := 0) (ms2 := 0) dX10_takeBody_17 cw10_140 (by decide) rfl rfl (Nat.le_of_ble_eq_true rfl) rfl rfl kd_279 ⟨_, _, rfl⟩ (by decide) (by omega) (ok_X10_takeLayer hT hn hp h240 hpn ht hL (fun hf M2 a b => ?_) (fun hf M2 d => ?_))
      · skip
        refine go_goto (tgt := 39) dX10_takeBody_20 rfl ?_
        refine go_iret dX10_takeBody_39 rfl rfl ⟨_, rfl, ?_⟩
        exact gF hf M2 a b
      · skip
        refine go_goto (tgt := 39) dX10_takeBody_20 rfl ?_
        refine go_iret dX10_takeBody_39 rfl rfl ⟨_, rfl, ?_⟩
        exact gS hf M2 d
  · exact absurd c1 (by decide)

set_option maxHeartbeats 4000000 in
set_option maxRecDepth 100000 in
theorem ok_X10_takeBody_2 {w n p E : Nat} {T : Nat → Int} {M : inm} {Q : Int → Nat → rfm → inm → Prop} (hT : (fun j => M 290 j) = T) (hn : M 279 18 = (n : Int)) (hp : M 279 20 = (p : Int)) (h240 : n ≤ 240) (hpn : p ≤ n) (ht : ∀ j, j < n → 0 ≤ T j ∧ T j ≤ 255) (hE : M 279 27 = (E : Int) ∧ E < 5) (gF : ¬ bdF T n p 101 = 0 → ∀ M' : inm, Fr M M' → M' 279 19 = ((bdB T n p 101 : Nat) : Int) → Q (bdF T n p 101) 303 (PP w) M') (gS : bdF T n p 101 = 0 → ∀ M' : inm, DS M M' T n p 101 0 E 0 → Q 0 303 (PP w) M') : OkI yX10_takeBody cX10_takeBody 2 3 0 0 (some .int) [vR 279, vI 2] 303 (PP w) M Q := by
  refine OkI.of (by decide +kernel) (by decide +kernel) (Nat.le_of_ble_eq_true rfl) ?_
  refine go_eq (lv' := [(0, vR 279), (1, vI 2)]) rfl rfl rfl rfl rfl ?_
  refine go_iload_n 1 dX10_takeBody_0 rfl rfl ?_
  refine go_if_ne (tgt := 11) dX10_takeBody_1 rfl (fun c1 => ?_) (fun c1 => ?_)
  · refine go_iload_n 1 dX10_takeBody_11 rfl rfl ?_
    refine go_iconst dX10_takeBody_12 (by decide) ?_
    refine go_icmp_ne (tgt := 23) dX10_takeBody_13 rfl (fun c2 => ?_) (fun c2 => ?_)
    · refine go_iload_n 1 dX10_takeBody_23 rfl rfl ?_
      refine go_iconst dX10_takeBody_24 (by decide) ?_
      refine go_icmp_ne (tgt := 35) dX10_takeBody_25 rfl (fun c3 => ?_) (fun c3 => ?_)
      · exact absurd c3 (by decide)
      · refine go_aload_n 0 dX10_takeBody_28 rfl rfl ?_
        refine go_callVI (av := []) (st := []) (a := 279) (mc2 := 0) (ms2 := 0) dX10_takeBody_29 cw10_143 (by decide) rfl rfl (Nat.le_of_ble_eq_true rfl) rfl rfl kd_279 ⟨_, _, rfl⟩ (by decide) (by omega) (ok_X10_takeExecutor hT hn hp h240 hpn ht hE (fun hf M2 a b => ?_) (fun hf M2 d => ?_))
        · skip
          refine go_goto (tgt := 39) dX10_takeBody_32 rfl ?_
          refine go_iret dX10_takeBody_39 rfl rfl ⟨_, rfl, ?_⟩
          exact gF hf M2 a b
        · skip
          refine go_goto (tgt := 39) dX10_takeBody_32 rfl ?_
          refine go_iret dX10_takeBody_39 rfl rfl ⟨_, rfl, ?_⟩
          exact gS hf M2 d
    · exact absurd c2 (by decide)
  · exact absurd c1 (by decide)

set_option maxHeartbeats 4000000 in
set_option maxRecDepth 100000 in
theorem ok_X10_takeBody_3 {w n p Y : Nat} {T : Nat → Int} {M : inm} {Q : Int → Nat → rfm → inm → Prop} (hT : (fun j => M 290 j) = T) (hn : M 279 18 = (n : Int)) (hp : M 279 20 = (p : Int)) (h240 : n ≤ 240) (hpn : p ≤ n) (ht : ∀ j, j < n → 0 ≤ T j ∧ T j ≤ 255) (hY : M 279 30 = (Y : Int) ∧ Y < 6) (gF : ¬ bdF T n p 116 = 0 → ∀ M' : inm, Fr M M' → M' 279 19 = ((bdB T n p 116 : Nat) : Int) → Q (bdF T n p 116) 303 (PP w) M') (gS : bdF T n p 116 = 0 → ∀ M' : inm, DS M M' T n p 116 0 0 Y → Q 0 303 (PP w) M') : OkI yX10_takeBody cX10_takeBody 2 3 0 0 (some .int) [vR 279, vI 3] 303 (PP w) M Q := by
  refine OkI.of (by decide +kernel) (by decide +kernel) (Nat.le_of_ble_eq_true rfl) ?_
  refine go_eq (lv' := [(0, vR 279), (1, vI 3)]) rfl rfl rfl rfl rfl ?_
  refine go_iload_n 1 dX10_takeBody_0 rfl rfl ?_
  refine go_if_ne (tgt := 11) dX10_takeBody_1 rfl (fun c1 => ?_) (fun c1 => ?_)
  · refine go_iload_n 1 dX10_takeBody_11 rfl rfl ?_
    refine go_iconst dX10_takeBody_12 (by decide) ?_
    refine go_icmp_ne (tgt := 23) dX10_takeBody_13 rfl (fun c2 => ?_) (fun c2 => ?_)
    · refine go_iload_n 1 dX10_takeBody_23 rfl rfl ?_
      refine go_iconst dX10_takeBody_24 (by decide) ?_
      refine go_icmp_ne (tgt := 35) dX10_takeBody_25 rfl (fun c3 => ?_) (fun c3 => ?_)
      · refine go_aload_n 0 dX10_takeBody_35 rfl rfl ?_
        refine go_callVI (av := []) (st := []) (a := 279) (mc2 := 0) (ms2 := 0) dX10_takeBody_36 cw10_146 (by decide) rfl rfl (Nat.le_of_ble_eq_true rfl) rfl rfl kd_279 ⟨_, _, rfl⟩ (by decide) (by omega) (ok_X10_takeType hT hn hp h240 hpn ht hY (fun hf M2 a b => ?_) (fun hf M2 d => ?_))
        · skip
          refine go_iret dX10_takeBody_39 rfl rfl ⟨_, rfl, ?_⟩
          exact gF hf M2 a b
        · skip
          refine go_iret dX10_takeBody_39 rfl rfl ⟨_, rfl, ?_⟩
          exact gS hf M2 d
      · exact absurd c3 (by decide)
    · exact absurd c2 (by decide)
  · exact absurd c1 (by decide)

def rFull (M : inm) (k : Int) : Int := if k = 0 then (if M 279 23 < 0 then 0 else 1) else if k = 1 then (if M 279 24 = 12 then 1 else 0) else if k = 2 then (if M 279 27 = 5 then 1 else 0) else (if M 279 30 = 6 then 1 else 0)
set_option maxHeartbeats 4000000 in
set_option maxRecDepth 100000 in
theorem ok_X10_isFull {w : Nat} {k : Int} {M : inm} {Q : Int → Nat → rfm → inm → Prop} (hQ : Q (rFull M k) 303 (PP w) M) : OkI yX10_isFull cX10_isFull 2 0 0 0 (some .boolean) [vR 279, vI k] 303 (PP w) M Q := by
  refine OkI.of (by decide +kernel) (by decide +kernel) (Nat.le_of_ble_eq_true rfl) ?_
  refine go_eq (lv' := [(0, vR 279), (1, vI k)]) rfl rfl rfl rfl rfl ?_
  refine go_iload_n 1 dX10_isFull_0 rfl rfl ?_
  refine go_if_ne (tgt := 19) dX10_isFull_1 rfl (fun c1 => ?_) (fun c1 => ?_)
  · refine go_iload_n 1 dX10_isFull_19 rfl rfl ?_
    refine go_iconst dX10_isFull_20 (by decide) ?_
    refine go_icmp_ne (tgt := 41) dX10_isFull_21 rfl (fun c2 => ?_) (fun c2 => ?_)
    · refine go_iload_n 1 dX10_isFull_41 rfl rfl ?_
      refine go_iconst dX10_isFull_42 (by decide) ?_
      refine go_icmp_ne (tgt := 62) dX10_isFull_43 rfl (fun c3 => ?_) (fun c3 => ?_)
      · refine go_aload_n 0 dX10_isFull_62 rfl rfl ?_
        refine gx_getI (v := (M 279 30)) dX10_isFull_63 lk10_134.get kd_279 (by omega) rfl rfl ?_
        refine go_bipush dX10_isFull_66 (by decide) (by decide) ?_
        refine go_icmp_ne (tgt := 75) dX10_isFull_68 rfl (fun c4 => ?_) (fun c4 => ?_)
        · refine go_iconst dX10_isFull_75 (by decide) ?_
          refine go_iret dX10_isFull_76 rfl rfl ⟨_, rfl, ?_⟩
          unfold rFull at hQ
          first | (rw [if_pos (by omega), if_pos (by omega)] at hQ; exact hQ) | (rw [if_pos (by omega), if_neg (by omega)] at hQ; exact hQ) | (rw [if_neg (by omega), if_pos (by omega), if_pos (by omega)] at hQ; exact hQ) | (rw [if_neg (by omega), if_pos (by omega), if_neg (by omega)] at hQ; exact hQ) | (rw [if_neg (by omega), if_neg (by omega), if_pos (by omega), if_pos (by omega)] at hQ; exact hQ) | (rw [if_neg (by omega), if_neg (by omega), if_pos (by omega), if_neg (by omega)] at hQ; exact hQ) | (rw [if_neg (by omega), if_neg (by omega), if_neg (by omega), if_pos (by omega)] at hQ; exact hQ) | (rw [if_neg (by omega), if_neg (by omega), if_neg (by omega), if_neg (by omega)] at hQ; exact hQ)
        · refine go_iconst dX10_isFull_71 (by decide) ?_
          refine go_goto (tgt := 76) dX10_isFull_72 rfl ?_
          refine go_iret dX10_isFull_76 rfl rfl ⟨_, rfl, ?_⟩
          unfold rFull at hQ
          first | (rw [if_pos (by omega), if_pos (by omega)] at hQ; exact hQ) | (rw [if_pos (by omega), if_neg (by omega)] at hQ; exact hQ) | (rw [if_neg (by omega), if_pos (by omega), if_pos (by omega)] at hQ; exact hQ) | (rw [if_neg (by omega), if_pos (by omega), if_neg (by omega)] at hQ; exact hQ) | (rw [if_neg (by omega), if_neg (by omega), if_pos (by omega), if_pos (by omega)] at hQ; exact hQ) | (rw [if_neg (by omega), if_neg (by omega), if_pos (by omega), if_neg (by omega)] at hQ; exact hQ) | (rw [if_neg (by omega), if_neg (by omega), if_neg (by omega), if_pos (by omega)] at hQ; exact hQ) | (rw [if_neg (by omega), if_neg (by omega), if_neg (by omega), if_neg (by omega)] at hQ; exact hQ)
      · refine go_aload_n 0 dX10_isFull_46 rfl rfl ?_
        refine gx_getI (v := (M 279 27)) dX10_isFull_47 lk10_131.get kd_279 (by omega) rfl rfl ?_
        refine go_iconst dX10_isFull_50 (by decide) ?_
        refine go_icmp_ne (tgt := 58) dX10_isFull_51 rfl (fun c5 => ?_) (fun c5 => ?_)
        · refine go_iconst dX10_isFull_58 (by decide) ?_
          refine go_goto (tgt := 76) dX10_isFull_59 rfl ?_
          refine go_iret dX10_isFull_76 rfl rfl ⟨_, rfl, ?_⟩
          unfold rFull at hQ
          first | (rw [if_pos (by omega), if_pos (by omega)] at hQ; exact hQ) | (rw [if_pos (by omega), if_neg (by omega)] at hQ; exact hQ) | (rw [if_neg (by omega), if_pos (by omega), if_pos (by omega)] at hQ; exact hQ) | (rw [if_neg (by omega), if_pos (by omega), if_neg (by omega)] at hQ; exact hQ) | (rw [if_neg (by omega), if_neg (by omega), if_pos (by omega), if_pos (by omega)] at hQ; exact hQ) | (rw [if_neg (by omega), if_neg (by omega), if_pos (by omega), if_neg (by omega)] at hQ; exact hQ) | (rw [if_neg (by omega), if_neg (by omega), if_neg (by omega), if_pos (by omega)] at hQ; exact hQ) | (rw [if_neg (by omega), if_neg (by omega), if_neg (by omega), if_neg (by omega)] at hQ; exact hQ)
        · refine go_iconst dX10_isFull_54 (by decide) ?_
          refine go_goto (tgt := 76) dX10_isFull_55 rfl ?_
          refine go_iret dX10_isFull_76 rfl rfl ⟨_, rfl, ?_⟩
          unfold rFull at hQ
          first | (rw [if_pos (by omega), if_pos (by omega)] at hQ; exact hQ) | (rw [if_pos (by omega), if_neg (by omega)] at hQ; exact hQ) | (rw [if_neg (by omega), if_pos (by omega), if_pos (by omega)] at hQ; exact hQ) | (rw [if_neg (by omega), if_pos (by omega), if_neg (by omega)] at hQ; exact hQ) | (rw [if_neg (by omega), if_neg (by omega), if_pos (by omega), if_pos (by omega)] at hQ; exact hQ) | (rw [if_neg (by omega), if_neg (by omega), if_pos (by omega), if_neg (by omega)] at hQ; exact hQ) | (rw [if_neg (by omega), if_neg (by omega), if_neg (by omega), if_pos (by omega)] at hQ; exact hQ) | (rw [if_neg (by omega), if_neg (by omega), if_neg (by omega), if_neg (by omega)] at hQ; exact hQ)
    · refine go_aload_n 0 dX10_isFull_24 rfl rfl ?_
      refine gx_getI (v := (M 279 24)) dX10_isFull_25 lk10_128.get kd_279 (by omega) rfl rfl ?_
      refine go_bipush dX10_isFull_28 (by decide) (by decide) ?_
      refine go_icmp_ne (tgt := 37) dX10_isFull_30 rfl (fun c6 => ?_) (fun c6 => ?_)
      · refine go_iconst dX10_isFull_37 (by decide) ?_
        refine go_goto (tgt := 76) dX10_isFull_38 rfl ?_
        refine go_iret dX10_isFull_76 rfl rfl ⟨_, rfl, ?_⟩
        unfold rFull at hQ
        first | (rw [if_pos (by omega), if_pos (by omega)] at hQ; exact hQ) | (rw [if_pos (by omega), if_neg (by omega)] at hQ; exact hQ) | (rw [if_neg (by omega), if_pos (by omega), if_pos (by omega)] at hQ; exact hQ) | (rw [if_neg (by omega), if_pos (by omega), if_neg (by omega)] at hQ; exact hQ) | (rw [if_neg (by omega), if_neg (by omega), if_pos (by omega), if_pos (by omega)] at hQ; exact hQ) | (rw [if_neg (by omega), if_neg (by omega), if_pos (by omega), if_neg (by omega)] at hQ; exact hQ) | (rw [if_neg (by omega), if_neg (by omega), if_neg (by omega), if_pos (by omega)] at hQ; exact hQ) | (rw [if_neg (by omega), if_neg (by omega), if_neg (by omega), if_neg (by omega)] at hQ; exact hQ)
      · refine go_iconst dX10_isFull_33 (by decide) ?_
        refine go_goto (tgt := 76) dX10_isFull_34 rfl ?_
        refine go_iret dX10_isFull_76 rfl rfl ⟨_, rfl, ?_⟩
        unfold rFull at hQ
        first | (rw [if_pos (by omega), if_pos (by omega)] at hQ; exact hQ) | (rw [if_pos (by omega), if_neg (by omega)] at hQ; exact hQ) | (rw [if_neg (by omega), if_pos (by omega), if_pos (by omega)] at hQ; exact hQ) | (rw [if_neg (by omega), if_pos (by omega), if_neg (by omega)] at hQ; exact hQ) | (rw [if_neg (by omega), if_neg (by omega), if_pos (by omega), if_pos (by omega)] at hQ; exact hQ) | (rw [if_neg (by omega), if_neg (by omega), if_pos (by omega), if_neg (by omega)] at hQ; exact hQ) | (rw [if_neg (by omega), if_neg (by omega), if_neg (by omega), if_pos (by omega)] at hQ; exact hQ) | (rw [if_neg (by omega), if_neg (by omega), if_neg (by omega), if_neg (by omega)] at hQ; exact hQ)
  · refine go_aload_n 0 dX10_isFull_4 rfl rfl ?_
    refine gx_getI (v := (M 279 23)) dX10_isFull_5 lk10_125.get kd_279 (by omega) rfl rfl ?_
    refine go_if_lt (tgt := 15) dX10_isFull_8 rfl (fun c7 => ?_) (fun c7 => ?_)
    · refine go_iconst dX10_isFull_15 (by decide) ?_
      refine go_goto (tgt := 76) dX10_isFull_16 rfl ?_
      refine go_iret dX10_isFull_76 rfl rfl ⟨_, rfl, ?_⟩
      unfold rFull at hQ
      first | (rw [if_pos (by omega), if_pos (by omega)] at hQ; exact hQ) | (rw [if_pos (by omega), if_neg (by omega)] at hQ; exact hQ) | (rw [if_neg (by omega), if_pos (by omega), if_pos (by omega)] at hQ; exact hQ) | (rw [if_neg (by omega), if_pos (by omega), if_neg (by omega)] at hQ; exact hQ) | (rw [if_neg (by omega), if_neg (by omega), if_pos (by omega), if_pos (by omega)] at hQ; exact hQ) | (rw [if_neg (by omega), if_neg (by omega), if_pos (by omega), if_neg (by omega)] at hQ; exact hQ) | (rw [if_neg (by omega), if_neg (by omega), if_neg (by omega), if_pos (by omega)] at hQ; exact hQ) | (rw [if_neg (by omega), if_neg (by omega), if_neg (by omega), if_neg (by omega)] at hQ; exact hQ)
    · refine go_iconst dX10_isFull_11 (by decide) ?_
      refine go_goto (tgt := 76) dX10_isFull_12 rfl ?_
      refine go_iret dX10_isFull_76 rfl rfl ⟨_, rfl, ?_⟩
      unfold rFull at hQ
      first | (rw [if_pos (by omega), if_pos (by omega)] at hQ; exact hQ) | (rw [if_pos (by omega), if_neg (by omega)] at hQ; exact hQ) | (rw [if_neg (by omega), if_pos (by omega), if_pos (by omega)] at hQ; exact hQ) | (rw [if_neg (by omega), if_pos (by omega), if_neg (by omega)] at hQ; exact hQ) | (rw [if_neg (by omega), if_neg (by omega), if_pos (by omega), if_pos (by omega)] at hQ; exact hQ) | (rw [if_neg (by omega), if_neg (by omega), if_pos (by omega), if_neg (by omega)] at hQ; exact hQ) | (rw [if_neg (by omega), if_neg (by omega), if_neg (by omega), if_pos (by omega)] at hQ; exact hQ) | (rw [if_neg (by omega), if_neg (by omega), if_neg (by omega), if_neg (by omega)] at hQ; exact hQ)

