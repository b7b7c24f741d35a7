/-! ===== the reference: what is tried ===== -/
set_option maxHeartbeats 4000000 in
set_option maxRecDepth 100000 in
theorem lp_X10_worthIt {w L j : Nat} {a : Int} {M : inm} {Q : Int → Nat → rfm → inm → Prop} (hL : Lay10 M L) (hca : 0 ≤ M 280 j ∧ M 280 j ≤ 9) (hj : j < 5) (ha : a = 0 ∨ a = 1) (g0 : a = 0 → Q (fo (bestG (gainF (fun j => M 284 (j + 1)) (fun j => M 284 (j + 13)) (M 280 j))) L (0, 0)).1 303 (PP w) M) (g1 : a = 1 → Q ((fo (bestG (gainF (fun j => M 284 (j + 1)) (fun j => M 284 (j + 13)) (M 280 j))) L (0, 0)).2 + 1000) 303 (PP w) M) : ∀ (d k : Nat), L < k + d → k ≤ L → Go S0 yX10_worthIt cX10_worthIt 7 2 0 0 (some .int) 35 [(6, vI ((k : Nat) : Int)), (3, vI ((fo (bestG (gainF (fun j => M 284 (j + 1)) (fun j => M 284 (j + 13)) (M 280 j))) k (0, 0)).1)), (4, vI ((fo (bestG (gainF (fun j => M 284 (j + 1)) (fun j => M 284 (j + 13)) (M 280 j))) k (0, 0)).2)), (5, vI (sumTo (gainF (fun j => M 284 (j + 1)) (fun j => M 284 (j + 13)) (M 280 j)) k)), (0, vR 279), (1, vI ((j : Nat) : Int)), (2, vI a)] [] 303 (PP w) M (fun v n P M => ∃ z, v = some (vI z) ∧ Q z n P M) := by
  have hL12 := hL.2.1
  intro d
  induction d with
  | zero => intro k h1 h2; exfalso; omega
  | succ d ih =>
    intro k h1 h2
    have hgi := gain_in (c := (fun j => M 284 (j + 1))) (t := (fun j => M 284 (j + 13))) hca k (fun i hi => hL.2.2.1 i (by omega))
    have hbi := best_in (c := (fun j => M 284 (j + 1))) (t := (fun j => M 284 (j + 13))) hca k (by omega) (fun i hi => hL.2.2.1 i (by omega))
    refine go_iload 0 dX10_worthIt_35 rfl ?_
    refine go_aload_n 4 dX10_worthIt_37 rfl rfl ?_
    refine go_getR (r := 284) dX10_worthIt_38 lk10_22.get kd_279 (by omega) rfl (pp_279_8 w) ?_
    refine go_iconst dX10_worthIt_41 (by decide) ?_
    refine gx_iaload (v := ((L : Nat) : Int)) 0 dX10_worthIt_42 kd_284 (by omega) ln_284 (by omega) (by omega) hL.1 ?_
    refine go_icmp_ge (tgt := 133) dX10_worthIt_43 rfl (fun c1 => ?_) (fun c1 => ?_)
    · refine go_iload_n 6 dX10_worthIt_133 rfl rfl ?_
      refine go_if_ne (tgt := 141) dX10_worthIt_134 rfl (fun c2 => ?_) (fun c2 => ?_)
      · refine go_iload 2 dX10_worthIt_141 rfl ?_
        refine go_sipush dX10_worthIt_143 (by decide) (by decide) ?_
        refine gx_iadd (v := ((fo (bestG (gainF (fun j => M 284 (j + 1)) (fun j => M 284 (j + 13)) (M 280 j))) k (0, 0)).2 + 1000)) dX10_worthIt_146 rfl ⟨by omega, by omega⟩ ?_
        refine go_iret dX10_worthIt_147 rfl rfl ⟨_, rfl, ?_⟩
        have hk : k = L := by omega
        subst hk
        first | exact g0 (by omega) | exact g1 (by omega)
      · refine go_iload_n 1 dX10_worthIt_137 rfl rfl ?_
        refine go_goto (tgt := 147) dX10_worthIt_138 rfl ?_
        refine go_iret dX10_worthIt_147 rfl rfl ⟨_, rfl, ?_⟩
        have hk : k = L := by omega
        subst hk
        first | exact g0 (by omega) | exact g1 (by omega)
    · refine go_iload 3 dX10_worthIt_46 rfl ?_
      refine go_aload_n 4 dX10_worthIt_48 rfl rfl ?_
      refine go_iload 0 dX10_worthIt_49 rfl ?_
      refine go_callVI (av := [vI ((k : Nat) : Int)]) (st := [vI (sumTo (gainF (fun j => M 284 (j + 1)) (fun j => M 284 (j + 13)) (M 280 j)) k)]) (a := 279) (mc2 := 0) (ms2 := 0) dX10_worthIt_51 cw10_224 (by decide) rfl rfl (Nat.le_of_ble_eq_true rfl) rfl rfl kd_279 ⟨_, _, rfl⟩ (by decide) (by omega) (ok_X10_worthOf (k := k) (by omega) (hL.2.2.1 k (by omega)) ?_)
      have g3 := worth_in (c := M 284 (k + 1)) (hL.2.2.1 k (by omega)).1
      have g3b := hL.2.2.1 k (by omega)
      refine go_aload_n 4 dX10_worthIt_54 rfl rfl ?_
      refine go_iload 0 dX10_worthIt_55 rfl ?_
      refine go_callVI (av := [vI ((k : Nat) : Int)]) (st := [vI (worth (M 284 (k + 1)) (M 284 (k + 13))), vI (sumTo (gainF (fun j => M 284 (j + 1)) (fun j => M 284 (j + 13)) (M 280 j)) k)]) (a := 279) (mc2 := 0) (ms2 := 0) dX10_worthIt_57 cw10_227 (by decide) rfl rfl (Nat.le_of_ble_eq_true rfl) rfl rfl kd_279 ⟨_, _, rfl⟩ (by decide) (by omega) (ok_X10_stingOf (k := k) (by omega) (hL.2.2.1 k (by omega)) ?_)
      have g4 := sting_in (c := M 284 (k + 1)) (hL.2.2.1 k (by omega)).1
      have g4b := hL.2.2.1 k (by omega)
      refine gx_isub (v := ((worth (M 284 (k + 1)) (M 284 (k + 13))) - (sting (M 284 (k + 1)) (M 284 (k + 13))))) dX10_worthIt_60 rfl ⟨by omega, by omega⟩ ?_
      refine go_aload_n 4 dX10_worthIt_61 rfl rfl ?_
      refine go_getR (r := 280) dX10_worthIt_62 lk10_7.get kd_279 (by omega) rfl (pp_279_3 w) ?_
      refine go_iload_n 5 dX10_worthIt_65 rfl rfl ?_
      have f5 := hca
      refine gx_iaload (v := (M 280 j)) j dX10_worthIt_66 kd_280 (by omega) ln_280 rfl (by omega) rfl ?_
      refine gx_isub (v := (((worth (M 284 (k + 1)) (M 284 (k + 13))) - (sting (M 284 (k + 1)) (M 284 (k + 13)))) - (M 280 j))) dX10_worthIt_67 rfl ⟨by omega, by omega⟩ ?_
      refine go_aload_n 4 dX10_worthIt_68 rfl rfl ?_
      refine go_getR (r := 284) dX10_worthIt_69 lk10_22.get kd_279 (by omega) rfl (pp_279_8 w) ?_
      refine go_iconst dX10_worthIt_72 (by decide) ?_
      refine go_iload 0 dX10_worthIt_73 rfl ?_
      refine gx_iadd (v := ((k + 1 : Nat) : Int)) dX10_worthIt_75 (by omega) ⟨by omega, by omega⟩ ?_
      refine gx_iaload (v := (M 284 (k + 1))) (k + 1) dX10_worthIt_76 kd_284 (by omega) ln_284 rfl (by omega) rfl ?_
      refine go_iconst dX10_worthIt_77 (by decide) ?_
      refine go_icmp_ne (tgt := 90) dX10_worthIt_78 rfl (fun c6 => ?_) (fun c6 => ?_)
      · refine go_iconst dX10_worthIt_90 (by decide) ?_
        refine gx_iadd (v := ((((worth (M 284 (k + 1)) (M 284 (k + 13))) - (sting (M 284 (k + 1)) (M 284 (k + 13)))) - (M 280 j)) + 0)) dX10_worthIt_91 rfl ⟨by omega, by omega⟩ ?_
        refine gx_iadd (v := ((sumTo (gainF (fun j => M 284 (j + 1)) (fun j => M 284 (j + 13)) (M 280 j)) k) + ((((worth (M 284 (k + 1)) (M 284 (k + 13))) - (sting (M 284 (k + 1)) (M 284 (k + 13)))) - (M 280 j)) + 0))) dX10_worthIt_92 rfl ⟨by omega, by omega⟩ ?_
        refine go_istore (lv' := [(5, vI ((sumTo (gainF (fun j => M 284 (j + 1)) (fun j => M 284 (j + 13)) (M 280 j)) k) + ((((worth (M 284 (k + 1)) (M 284 (k + 13))) - (sting (M 284 (k + 1)) (M 284 (k + 13)))) - (M 280 j)) + 0))), (6, vI ((k : Nat) : Int)), (3, vI ((fo (bestG (gainF (fun j => M 284 (j + 1)) (fun j => M 284 (j + 13)) (M 280 j))) k (0, 0)).1)), (4, vI ((fo (bestG (gainF (fun j => M 284 (j + 1)) (fun j => M 284 (j + 13)) (M 280 j))) k (0, 0)).2)), (0, vR 279), (1, vI ((j : Nat) : Int)), (2, vI a)]) dX10_worthIt_93 (by decide) rfl ?_
        refine go_iload 0 dX10_worthIt_95 rfl ?_
        refine go_iload 3 dX10_worthIt_97 rfl ?_
        refine go_icmp_le (tgt := 109) dX10_worthIt_99 rfl (fun c7 => ?_) (fun c7 => ?_)
        · refine go_iload_n 2 dX10_worthIt_109 rfl rfl ?_
          refine go_istore_n (lv' := [(3, vI ((fo (bestG (gainF (fun j => M 284 (j + 1)) (fun j => M 284 (j + 13)) (M 280 j))) k (0, 0)).1)), (5, vI ((sumTo (gainF (fun j => M 284 (j + 1)) (fun j => M 284 (j + 13)) (M 280 j)) k) + ((((worth (M 284 (k + 1)) (M 284 (k + 13))) - (sting (M 284 (k + 1)) (M 284 (k + 13)))) - (M 280 j)) + 0))), (6, vI ((k : Nat) : Int)), (4, vI ((fo (bestG (gainF (fun j => M 284 (j + 1)) (fun j => M 284 (j + 13)) (M 280 j))) k (0, 0)).2)), (0, vR 279), (1, vI ((j : Nat) : Int)), (2, vI a)]) dX10_worthIt_110 rfl (by decide) rfl ?_
          refine go_iload 1 dX10_worthIt_111 rfl ?_
          refine go_iload 3 dX10_worthIt_113 rfl ?_
          refine go_icmp_le (tgt := 123) dX10_worthIt_115 rfl (fun c8 => ?_) (fun c8 => ?_)
          · refine go_iload 3 dX10_worthIt_123 rfl ?_
            refine go_istore (lv' := [(4, vI ((fo (bestG (gainF (fun j => M 284 (j + 1)) (fun j => M 284 (j + 13)) (M 280 j))) k (0, 0)).2)), (3, vI ((fo (bestG (gainF (fun j => M 284 (j + 1)) (fun j => M 284 (j + 13)) (M 280 j))) k (0, 0)).1)), (5, vI ((sumTo (gainF (fun j => M 284 (j + 1)) (fun j => M 284 (j + 13)) (M 280 j)) k) + ((((worth (M 284 (k + 1)) (M 284 (k + 13))) - (sting (M 284 (k + 1)) (M 284 (k + 13)))) - (M 280 j)) + 0))), (6, vI ((k : Nat) : Int)), (0, vR 279), (1, vI ((j : Nat) : Int)), (2, vI a)]) dX10_worthIt_125 (by decide) rfl ?_
            refine gx_iinc (v := ((k + 1 : Nat) : Int)) (lv' := [(6, vI ((k + 1 : Nat) : Int)), (4, vI ((fo (bestG (gainF (fun j => M 284 (j + 1)) (fun j => M 284 (j + 13)) (M 280 j))) k (0, 0)).2)), (3, vI ((fo (bestG (gainF (fun j => M 284 (j + 1)) (fun j => M 284 (j + 13)) (M 280 j))) k (0, 0)).1)), (5, vI ((sumTo (gainF (fun j => M 284 (j + 1)) (fun j => M 284 (j + 13)) (M 280 j)) k) + ((((worth (M 284 (k + 1)) (M 284 (k + 13))) - (sting (M 284 (k + 1)) (M 284 (k + 13)))) - (M 280 j)) + 0))), (0, vR 279), (1, vI ((j : Nat) : Int)), (2, vI a)]) 3 dX10_worthIt_127 rfl (by omega) ⟨by omega, by omega⟩ (by decide) rfl ?_
            refine go_goto (tgt := 35) dX10_worthIt_130 rfl ?_
            refine go_lv [0, 2, 1, 3, 4, 5, 6] rfl ?_
            have hs0 : sumTo (gainF (fun j => M 284 (j + 1)) (fun j => M 284 (j + 13)) (M 280 j)) (k + 1) = ((sumTo (gainF (fun j => M 284 (j + 1)) (fun j => M 284 (j + 13)) (M 280 j)) k) + ((((worth (M 284 (k + 1)) (M 284 (k + 13))) - (sting (M 284 (k + 1)) (M 284 (k + 13)))) - (M 280 j)) + 0)) := by
              show sumTo (gainF (fun j => M 284 (j + 1)) (fun j => M 284 (j + 13)) (M 280 j)) k + (worth (M 284 (k + 1)) (M 284 (k + 13)) - sting (M 284 (k + 1)) (M 284 (k + 13)) - M 280 j + (if 0 < k ∧ M 284 (k + 1) = 4 then 5 else 0)) = _
              first | (rw [if_pos (by omega)]; done) | (rw [if_neg (by omega)]; done)
            have he : (fo (bestG (gainF (fun j => M 284 (j + 1)) (fun j => M 284 (j + 13)) (M 280 j))) (k + 1) (0, 0)) = ((fo (bestG (gainF (fun j => M 284 (j + 1)) (fun j => M 284 (j + 13)) (M 280 j))) k (0, 0)).1, (fo (bestG (gainF (fun j => M 284 (j + 1)) (fun j => M 284 (j + 13)) (M 280 j))) k (0, 0)).2) := by
              rw [fo, bestG, hs0]
              first | (exfalso; omega) | (rw [if_pos (by omega)]; done) | (rw [if_neg (by omega)]; done)
            refine go_eq (lv' := [(6, vI (((k + 1) : Nat) : Int)), (3, vI ((fo (bestG (gainF (fun j => M 284 (j + 1)) (fun j => M 284 (j + 13)) (M 280 j))) (k + 1) (0, 0)).1)), (4, vI ((fo (bestG (gainF (fun j => M 284 (j + 1)) (fun j => M 284 (j + 13)) (M 280 j))) (k + 1) (0, 0)).2)), (5, vI (sumTo (gainF (fun j => M 284 (j + 1)) (fun j => M 284 (j + 13)) (M 280 j)) (k + 1))), (0, vR 279), (1, vI ((j : Nat) : Int)), (2, vI a)]) (by rw [he, hs0]; rfl) rfl rfl rfl rfl ?_
            exact ih (k + 1) (by omega) (by omega)
          · refine go_iload 1 dX10_worthIt_118 rfl ?_
            refine go_goto (tgt := 125) dX10_worthIt_120 rfl ?_
            refine go_istore (lv' := [(4, vI ((sumTo (gainF (fun j => M 284 (j + 1)) (fun j => M 284 (j + 13)) (M 280 j)) k) + ((((worth (M 284 (k + 1)) (M 284 (k + 13))) - (sting (M 284 (k + 1)) (M 284 (k + 13)))) - (M 280 j)) + 0))), (3, vI ((fo (bestG (gainF (fun j => M 284 (j + 1)) (fun j => M 284 (j + 13)) (M 280 j))) k (0, 0)).1)), (5, vI ((sumTo (gainF (fun j => M 284 (j + 1)) (fun j => M 284 (j + 13)) (M 280 j)) k) + ((((worth (M 284 (k + 1)) (M 284 (k + 13))) - (sting (M 284 (k + 1)) (M 284 (k + 13)))) - (M 280 j)) + 0))), (6, vI ((k : Nat) : Int)), (0, vR 279), (1, vI ((j : Nat) : Int)), (2, vI a)]) dX10_worthIt_125 (by decide) rfl ?_
            refine gx_iinc (v := ((k + 1 : Nat) : Int)) (lv' := [(6, vI ((k + 1 : Nat) : Int)), (4, vI ((sumTo (gainF (fun j => M 284 (j + 1)) (fun j => M 284 (j + 13)) (M 280 j)) k) + ((((worth (M 284 (k + 1)) (M 284 (k + 13))) - (sting (M 284 (k + 1)) (M 284 (k + 13)))) - (M 280 j)) + 0))), (3, vI ((fo (bestG (gainF (fun j => M 284 (j + 1)) (fun j => M 284 (j + 13)) (M 280 j))) k (0, 0)).1)), (5, vI ((sumTo (gainF (fun j => M 284 (j + 1)) (fun j => M 284 (j + 13)) (M 280 j)) k) + ((((worth (M 284 (k + 1)) (M 284 (k + 13))) - (sting (M 284 (k + 1)) (M 284 (k + 13)))) - (M 280 j)) + 0))), (0, vR 279), (1, vI ((j : Nat) : Int)), (2, vI a)]) 3 dX10_worthIt_127 rfl (by omega) ⟨by omega, by omega⟩ (by decide) rfl ?_
            refine go_goto (tgt := 35) dX10_worthIt_130 rfl ?_
            refine go_lv [0, 2, 1, 3, 4, 5, 6] rfl ?_
            have hs0 : sumTo (gainF (fun j => M 284 (j + 1)) (fun j => M 284 (j + 13)) (M 280 j)) (k + 1) = ((sumTo (gainF (fun j => M 284 (j + 1)) (fun j => M 284 (j + 13)) (M 280 j)) k) + ((((worth (M 284 (k + 1)) (M 284 (k + 13))) - (sting (M 284 (k + 1)) (M 284 (k + 13)))) - (M 280 j)) + 0)) := by
              show sumTo (gainF (fun j => M 284 (j + 1)) (fun j => M 284 (j + 13)) (M 280 j)) k + (worth (M 284 (k + 1)) (M 284 (k + 13)) - sting (M 284 (k + 1)) (M 284 (k + 13)) - M 280 j + (if 0 < k ∧ M 284 (k + 1) = 4 then 5 else 0)) = _
              first | (rw [if_pos (by omega)]; done) | (rw [if_neg (by omega)]; done)
            have he : (fo (bestG (gainF (fun j => M 284 (j + 1)) (fun j => M 284 (j + 13)) (M 280 j))) (k + 1) (0, 0)) = ((fo (bestG (gainF (fun j => M 284 (j + 1)) (fun j => M 284 (j + 13)) (M 280 j))) k (0, 0)).1, ((sumTo (gainF (fun j => M 284 (j + 1)) (fun j => M 284 (j + 13)) (M 280 j)) k) + ((((worth (M 284 (k + 1)) (M 284 (k + 13))) - (sting (M 284 (k + 1)) (M 284 (k + 13)))) - (M 280 j)) + 0))) := by
              rw [fo, bestG, hs0]
              first | (exfalso; omega) | (rw [if_pos (by omega)]; done) | (rw [if_neg (by omega)]; done)
            refine go_eq (lv' := [(6, vI (((k + 1) : Nat) : Int)), (3, vI ((fo (bestG (gainF (fun j => M 284 (j + 1)) (fun j => M 284 (j + 13)) (M 280 j))) (k + 1) (0, 0)).1)), (4, vI ((fo (bestG (gainF (fun j => M 284 (j + 1)) (fun j => M 284 (j + 13)) (M 280 j))) (k + 1) (0, 0)).2)), (5, vI (sumTo (gainF (fun j => M 284 (j + 1)) (fun j => M 284 (j + 13)) (M 280 j)) (k + 1))), (0, vR 279), (1, vI ((j : Nat) : Int)), (2, vI a)]) (by rw [he, hs0]; rfl) rfl rfl rfl rfl ?_
            exact ih (k + 1) (by omega) (by omega)
        · refine go_iload 1 dX10_worthIt_102 rfl ?_
          refine go_iconst dX10_worthIt_104 (by decide) ?_
          refine gx_iadd (v := ((k + 1 : Nat) : Int)) dX10_worthIt_105 (by omega) ⟨by omega, by omega⟩ ?_
          refine go_goto (tgt := 110) dX10_worthIt_106 rfl ?_
          refine go_istore_n (lv' := [(3, vI ((k + 1 : Nat) : Int)), (5, vI ((sumTo (gainF (fun j => M 284 (j + 1)) (fun j => M 284 (j + 13)) (M 280 j)) k) + ((((worth (M 284 (k + 1)) (M 284 (k + 13))) - (sting (M 284 (k + 1)) (M 284 (k + 13)))) - (M 280 j)) + 0))), (6, vI ((k : Nat) : Int)), (4, vI ((fo (bestG (gainF (fun j => M 284 (j + 1)) (fun j => M 284 (j + 13)) (M 280 j))) k (0, 0)).2)), (0, vR 279), (1, vI ((j : Nat) : Int)), (2, vI a)]) dX10_worthIt_110 rfl (by decide) rfl ?_
          refine go_iload 1 dX10_worthIt_111 rfl ?_
          refine go_iload 3 dX10_worthIt_113 rfl ?_
          refine go_icmp_le (tgt := 123) dX10_worthIt_115 rfl (fun c9 => ?_) (fun c9 => ?_)
          · refine go_iload 3 dX10_worthIt_123 rfl ?_
            refine go_istore (lv' := [(4, vI ((fo (bestG (gainF (fun j => M 284 (j + 1)) (fun j => M 284 (j + 13)) (M 280 j))) k (0, 0)).2)), (3, vI ((k + 1 : Nat) : Int)), (5, vI ((sumTo (gainF (fun j => M 284 (j + 1)) (fun j => M 284 (j + 13)) (M 280 j)) k) + ((((worth (M 284 (k + 1)) (M 284 (k + 13))) - (sting (M 284 (k + 1)) (M 284 (k + 13)))) - (M 280 j)) + 0))), (6, vI ((k : Nat) : Int)), (0, vR 279), (1, vI ((j : Nat) : Int)), (2, vI a)]) dX10_worthIt_125 (by decide) rfl ?_
            refine gx_iinc (v := ((k + 1 : Nat) : Int)) (lv' := [(6, vI ((k + 1 : Nat) : Int)), (4, vI ((fo (bestG (gainF (fun j => M 284 (j + 1)) (fun j => M 284 (j + 13)) (M 280 j))) k (0, 0)).2)), (3, vI ((k + 1 : Nat) : Int)), (5, vI ((sumTo (gainF (fun j => M 284 (j + 1)) (fun j => M 284 (j + 13)) (M 280 j)) k) + ((((worth (M 284 (k + 1)) (M 284 (k + 13))) - (sting (M 284 (k + 1)) (M 284 (k + 13)))) - (M 280 j)) + 0))), (0, vR 279), (1, vI ((j : Nat) : Int)), (2, vI a)]) 3 dX10_worthIt_127 rfl (by omega) ⟨by omega, by omega⟩ (by decide) rfl ?_
            refine go_goto (tgt := 35) dX10_worthIt_130 rfl ?_
            refine go_lv [0, 2, 1, 3, 4, 5, 6] rfl ?_
            have hs0 : sumTo (gainF (fun j => M 284 (j + 1)) (fun j => M 284 (j + 13)) (M 280 j)) (k + 1) = ((sumTo (gainF (fun j => M 284 (j + 1)) (fun j => M 284 (j + 13)) (M 280 j)) k) + ((((worth (M 284 (k + 1)) (M 284 (k + 13))) - (sting (M 284 (k + 1)) (M 284 (k + 13)))) - (M 280 j)) + 0)) := by
              show sumTo (gainF (fun j => M 284 (j + 1)) (fun j => M 284 (j + 13)) (M 280 j)) k + (worth (M 284 (k + 1)) (M 284 (k + 13)) - sting (M 284 (k + 1)) (M 284 (k + 13)) - M 280 j + (if 0 < k ∧ M 284 (k + 1) = 4 then 5 else 0)) = _
              first | (rw [if_pos (by omega)]; done) | (rw [if_neg (by omega)]; done)
            have he : (fo (bestG (gainF (fun j => M 284 (j + 1)) (fun j => M 284 (j + 13)) (M 280 j))) (k + 1) (0, 0)) = (((k + 1 : Nat) : Int), (fo (bestG (gainF (fun j => M 284 (j + 1)) (fun j => M 284 (j + 13)) (M 280 j))) k (0, 0)).2) := by
              rw [fo, bestG, hs0]
              first | (exfalso; omega) | (rw [if_pos (by omega)]; done) | (rw [if_neg (by omega)]; done)
            refine go_eq (lv' := [(6, vI (((k + 1) : Nat) : Int)), (3, vI ((fo (bestG (gainF (fun j => M 284 (j + 1)) (fun j => M 284 (j + 13)) (M 280 j))) (k + 1) (0, 0)).1)), (4, vI ((fo (bestG (gainF (fun j => M 284 (j + 1)) (fun j => M 284 (j + 13)) (M 280 j))) (k + 1) (0, 0)).2)), (5, vI (sumTo (gainF (fun j => M 284 (j + 1)) (fun j => M 284 (j + 13)) (M 280 j)) (k + 1))), (0, vR 279), (1, vI ((j : Nat) : Int)), (2, vI a)]) (by rw [he, hs0]; rfl) rfl rfl rfl rfl ?_
            exact ih (k + 1) (by omega) (by omega)
          · refine go_iload 1 dX10_worthIt_118 rfl ?_
            refine go_goto (tgt := 125) dX10_worthIt_120 rfl ?_
            refine go_istore (lv' := [(4, vI ((sumTo (gainF (fun j => M 284 (j + 1)) (fun j => M 284 (j + 13)) (M 280 j)) k) + ((((worth (M 284 (k + 1)) (M 284 (k + 13))) - (sting (M 284 (k + 1)) (M 284 (k + 13)))) - (M 280 j)) + 0))), (3, vI ((k + 1 : Nat) : Int)), (5, vI ((sumTo (gainF (fun j => M 284 (j + 1)) (fun j => M 284 (j + 13)) (M 280 j)) k) + ((((worth (M 284 (k + 1)) (M 284 (k + 13))) - (sting (M 284 (k + 1)) (M 284 (k + 13)))) - (M 280 j)) + 0))), (6, vI ((k : Nat) : Int)), (0, vR 279), (1, vI ((j : Nat) : Int)), (2, vI a)]) dX10_worthIt_125 (by decide) rfl ?_
            refine gx_iinc (v := ((k + 1 : Nat) : Int)) (lv' := [(6, vI ((k + 1 : Nat) : Int)), (4, vI ((sumTo (gainF (fun j => M 284 (j + 1)) (fun j => M 284 (j + 13)) (M 280 j)) k) + ((((worth (M 284 (k + 1)) (M 284 (k + 13))) - (sting (M 284 (k + 1)) (M 284 (k + 13)))) - (M 280 j)) + 0))), (3, vI ((k + 1 : Nat) : Int)), (5, vI ((sumTo (gainF (fun j => M 284 (j + 1)) (fun j => M 284 (j + 13)) (M 280 j)) k) + ((((worth (M 284 (k + 1)) (M 284 (k + 13))) - (sting (M 284 (k + 1)) (M 284 (k + 13)))) - (M 280 j)) + 0))), (0, vR 279), (1, vI ((j : Nat) : Int)), (2, vI a)]) 3 dX10_worthIt_127 rfl (by omega) ⟨by omega, by omega⟩ (by decide) rfl ?_
            refine go_goto (tgt := 35) dX10_worthIt_130 rfl ?_
            refine go_lv [0, 2, 1, 3, 4, 5, 6] rfl ?_
            have hs0 : sumTo (gainF (fun j => M 284 (j + 1)) (fun j => M 284 (j + 13)) (M 280 j)) (k + 1) = ((sumTo (gainF (fun j => M 284 (j + 1)) (fun j => M 284 (j + 13)) (M 280 j)) k) + ((((worth (M 284 (k + 1)) (M 284 (k + 13))) - (sting (M 284 (k + 1)) (M 284 (k + 13)))) - (M 280 j)) + 0)) := by
              show sumTo (gainF (fun j => M 284 (j + 1)) (fun j => M 284 (j + 13)) (M 280 j)) k + (worth (M 284 (k + 1)) (M 284 (k + 13)) - sting (M 284 (k + 1)) (M 284 (k + 13)) - M 280 j + (if 0 < k ∧ M 284 (k + 1) = 4 then 5 else 0)) = _
              first | (rw [if_pos (by omega)]; done) | (rw [if_neg (by omega)]; done)
            have he : (fo (bestG (gainF (fun j => M 284 (j + 1)) (fun j => M 284 (j + 13)) (M 280 j))) (k + 1) (0, 0)) = (((k + 1 : Nat) : Int), ((sumTo (gainF (fun j => M 284 (j + 1)) (fun j => M 284 (j + 13)) (M 280 j)) k) + ((((worth (M 284 (k + 1)) (M 284 (k + 13))) - (sting (M 284 (k + 1)) (M 284 (k + 13)))) - (M 280 j)) + 0))) := by
              rw [fo, bestG, hs0]
              first | (exfalso; omega) | (rw [if_pos (by omega)]; done) | (rw [if_neg (by omega)]; done)
            refine go_eq (lv' := [(6, vI (((k + 1) : Nat) : Int)), (3, vI ((fo (bestG (gainF (fun j => M 284 (j + 1)) (fun j => M 284 (j + 13)) (M 280 j))) (k + 1) (0, 0)).1)), (4, vI ((fo (bestG (gainF (fun j => M 284 (j + 1)) (fun j => M 284 (j + 13)) (M 280 j))) (k + 1) (0, 0)).2)), (5, vI (sumTo (gainF (fun j => M 284 (j + 1)) (fun j => M 284 (j + 13)) (M 280 j)) (k + 1))), (0, vR 279), (1, vI ((j : Nat) : Int)), (2, vI a)]) (by rw [he, hs0]; rfl) rfl rfl rfl rfl ?_
            exact ih (k + 1) (by omega) (by omega)
      · refine go_iload 0 dX10_worthIt_81 rfl ?_
        refine go_if_le (tgt := 90) dX10_worthIt_83 rfl (fun c10 => ?_) (fun c10 => ?_)
        · refine go_iconst dX10_worthIt_90 (by decide) ?_
          refine gx_iadd (v := ((((worth (M 284 (k + 1)) (M 284 (k + 13))) - (sting (M 284 (k + 1)) (M 284 (k + 13)))) - (M 280 j)) + 0)) dX10_worthIt_91 rfl ⟨by omega, by omega⟩ ?_
          refine gx_iadd (v := ((sumTo (gainF (fun j => M 284 (j + 1)) (fun j => M 284 (j + 13)) (M 280 j)) k) + ((((worth (M 284 (k + 1)) (M 284 (k + 13))) - (sting (M 284 (k + 1)) (M 284 (k + 13)))) - (M 280 j)) + 0))) dX10_worthIt_92 rfl ⟨by omega, by omega⟩ ?_
          refine go_istore (lv' := [(5, vI ((sumTo (gainF (fun j => M 284 (j + 1)) (fun j => M 284 (j + 13)) (M 280 j)) k) + ((((worth (M 284 (k + 1)) (M 284 (k + 13))) - (sting (M 284 (k + 1)) (M 284 (k + 13)))) - (M 280 j)) + 0))), (6, vI ((k : Nat) : Int)), (3, vI ((fo (bestG (gainF (fun j => M 284 (j + 1)) (fun j => M 284 (j + 13)) (M 280 j))) k (0, 0)).1)), (4, vI ((fo (bestG (gainF (fun j => M 284 (j + 1)) (fun j => M 284 (j + 13)) (M 280 j))) k (0, 0)).2)), (0, vR 279), (1, vI ((j : Nat) : Int)), (2, vI a)]) dX10_worthIt_93 (by decide) rfl ?_
          refine go_iload 0 dX10_worthIt_95 rfl ?_
          refine go_iload 3 dX10_worthIt_97 rfl ?_
          refine go_icmp_le (tgt := 109) dX10_worthIt_99 rfl (fun c11 => ?_) (fun c11 => ?_)
          · refine go_iload_n 2 dX10_worthIt_109 rfl rfl ?_
            refine go_istore_n (lv' := [(3, vI ((fo (bestG (gainF (fun j => M 284 (j + 1)) (fun j => M 284 (j + 13)) (M 280 j))) k (0, 0)).1)), (5, vI ((sumTo (gainF (fun j => M 284 (j + 1)) (fun j => M 284 (j + 13)) (M 280 j)) k) + ((((worth (M 284 (k + 1)) (M 284 (k + 13))) - (sting (M 284 (k + 1)) (M 284 (k + 13)))) - (M 280 j)) + 0))), (6, vI ((k : Nat) : Int)), (4, vI ((fo (bestG (gainF (fun j => M 284 (j + 1)) (fun j => M 284 (j + 13)) (M 280 j))) k (0, 0)).2)), (0, vR 279), (1, vI ((j : Nat) : Int)), (2, vI a)]) dX10_worthIt_110 rfl (by decide) rfl ?_
            refine go_iload 1 dX10_worthIt_111 rfl ?_
            refine go_iload 3 dX10_worthIt_113 rfl ?_
            refine go_icmp_le (tgt := 123) dX10_worthIt_115 rfl (fun c12 => ?_) (fun c12 => ?_)
            · refine go_iload 3 dX10_worthIt_123 rfl ?_
              refine go_istore (lv' := [(4, vI ((fo (bestG (gainF (fun j => M 284 (j + 1)) (fun j => M 284 (j + 13)) (M 280 j))) k (0, 0)).2)), (3, vI ((fo (bestG (gainF (fun j => M 284 (j + 1)) (fun j => M 284 (j + 13)) (M 280 j))) k (0, 0)).1)), (5, vI ((sumTo (gainF (fun j => M 284 (j + 1)) (fun j => M 284 (j + 13)) (M 280 j)) k) + ((((worth (M 284 (k + 1)) (M 284 (k + 13))) - (sting (M 284 (k + 1)) (M 284 (k + 13)))) - (M 280 j)) + 0))), (6, vI ((k : Nat) : Int)), (0, vR 279), (1, vI ((j : Nat) : Int)), (2, vI a)]) dX10_worthIt_125 (by decide) rfl ?_
              refine gx_iinc (v := ((k + 1 : Nat) : Int)) (lv' := [(6, vI ((k + 1 : Nat) : Int)), (4, vI ((fo (bestG (gainF (fun j => M 284 (j + 1)) (fun j => M 284 (j + 13)) (M 280 j))) k (0, 0)).2)), (3, vI ((fo (bestG (gainF (fun j => M 284 (j + 1)) (fun j => M 284 (j + 13)) (M 280 j))) k (0, 0)).1)), (5, vI ((sumTo (gainF (fun j => M 284 (j + 1)) (fun j => M 284 (j + 13)) (M 280 j)) k) + ((((worth (M 284 (k + 1)) (M 284 (k + 13))) - (sting (M 284 (k + 1)) (M 284 (k + 13)))) - (M 280 j)) + 0))), (0, vR 279), (1, vI ((j : Nat) : Int)), (2, vI a)]) 3 dX10_worthIt_127 rfl (by omega) ⟨by omega, by omega⟩ (by decide) rfl ?_
              refine go_goto (tgt := 35) dX10_worthIt_130 rfl ?_
              refine go_lv [0, 2, 1, 3, 4, 5, 6] rfl ?_
              have hs0 : sumTo (gainF (fun j => M 284 (j + 1)) (fun j => M 284 (j + 13)) (M 280 j)) (k + 1) = ((sumTo (gainF (fun j => M 284 (j + 1)) (fun j => M 284 (j + 13)) (M 280 j)) k) + ((((worth (M 284 (k + 1)) (M 284 (k + 13))) - (sting (M 284 (k + 1)) (M 284 (k + 13)))) - (M 280 j)) + 0)) := by
                show sumTo (gainF (fun j => M 284 (j + 1)) (fun j => M 284 (j + 13)) (M 280 j)) k + (worth (M 284 (k + 1)) (M 284 (k + 13)) - sting (M 284 (k + 1)) (M 284 (k + 13)) - M 280 j + (if 0 < k ∧ M 284 (k + 1) = 4 then 5 else 0)) = _
                first | (rw [if_pos (by omega)]; done) | (rw [if_neg (by omega)]; done)
              have he : (fo (bestG (gainF (fun j => M 284 (j + 1)) (fun j => M 284 (j + 13)) (M 280 j))) (k + 1) (0, 0)) = ((fo (bestG (gainF (fun j => M 284 (j + 1)) (fun j => M 284 (j + 13)) (M 280 j))) k (0, 0)).1, (fo (bestG (gainF (fun j => M 284 (j + 1)) (fun j => M 284 (j + 13)) (M 280 j))) k (0, 0)).2) := by
                rw [fo, bestG, hs0]
                first | (exfalso; omega) | (rw [if_pos (by omega)]; done) | (rw [if_neg (by omega)]; done)
              refine go_eq (lv' := [(6, vI (((k + 1) : Nat) : Int)), (3, vI ((fo (bestG (gainF (fun j => M 284 (j + 1)) (fun j => M 284 (j + 13)) (M 280 j))) (k + 1) (0, 0)).1)), (4, vI ((fo (bestG (gainF (fun j => M 284 (j + 1)) (fun j => M 284 (j + 13)) (M 280 j))) (k + 1) (0, 0)).2)), (5, vI (sumTo (gainF (fun j => M 284 (j + 1)) (fun j => M 284 (j + 13)) (M 280 j)) (k + 1))), (0, vR 279), (1, vI ((j : Nat) : Int)), (2, vI a)]) (by rw [he, hs0]; rfl) rfl rfl rfl rfl ?_
              exact ih (k + 1) (by omega) (by omega)
            · refine go_iload 1 dX10_worthIt_118 rfl ?_
              refine go_goto (tgt := 125) dX10_worthIt_120 rfl ?_
              refine go_istore (lv' := [(4, vI ((sumTo (gainF (fun j => M 284 (j + 1)) (fun j => M 284 (j + 13)) (M 280 j)) k) + ((((worth (M 284 (k + 1)) (M 284 (k + 13))) - (sting (M 284 (k + 1)) (M 284 (k + 13)))) - (M 280 j)) + 0))), (3, vI ((fo (bestG (gainF (fun j => M 284 (j + 1)) (fun j => M 284 (j + 13)) (M 280 j))) k (0, 0)).1)), (5, vI ((sumTo (gainF (fun j => M 284 (j + 1)) (fun j => M 284 (j + 13)) (M 280 j)) k) + ((((worth (M 284 (k + 1)) (M 284 (k + 13))) - (sting (M 284 (k + 1)) (M 284 (k + 13)))) - (M 280 j)) + 0))), (6, vI ((k : Nat) : Int)), (0, vR 279), (1, vI ((j : Nat) : Int)), (2, vI a)]) dX10_worthIt_125 (by decide) rfl ?_
              refine gx_iinc (v := ((k + 1 : Nat) : Int)) (lv' := [(6, vI ((k + 1 : Nat) : Int)), (4, vI ((sumTo (gainF (fun j => M 284 (j + 1)) (fun j => M 284 (j + 13)) (M 280 j)) k) + ((((worth (M 284 (k + 1)) (M 284 (k + 13))) - (sting (M 284 (k + 1)) (M 284 (k + 13)))) - (M 280 j)) + 0))), (3, vI ((fo (bestG (gainF (fun j => M 284 (j + 1)) (fun j => M 284 (j + 13)) (M 280 j))) k (0, 0)).1)), (5, vI ((sumTo (gainF (fun j => M 284 (j + 1)) (fun j => M 284 (j + 13)) (M 280 j)) k) + ((((worth (M 284 (k + 1)) (M 284 (k + 13))) - (sting (M 284 (k + 1)) (M 284 (k + 13)))) - (M 280 j)) + 0))), (0, vR 279), (1, vI ((j : Nat) : Int)), (2, vI a)]) 3 dX10_worthIt_127 rfl (by omega) ⟨by omega, by omega⟩ (by decide) rfl ?_
              refine go_goto (tgt := 35) dX10_worthIt_130 rfl ?_
              refine go_lv [0, 2, 1, 3, 4, 5, 6] rfl ?_
              have hs0 : sumTo (gainF (fun j => M 284 (j + 1)) (fun j => M 284 (j + 13)) (M 280 j)) (k + 1) = ((sumTo (gainF (fun j => M 284 (j + 1)) (fun j => M 284 (j + 13)) (M 280 j)) k) + ((((worth (M 284 (k + 1)) (M 284 (k + 13))) - (sting (M 284 (k + 1)) (M 284 (k + 13)))) - (M 280 j)) + 0)) := by
                show sumTo (gainF (fun j => M 284 (j + 1)) (fun j => M 284 (j + 13)) (M 280 j)) k + (worth (M 284 (k + 1)) (M 284 (k + 13)) - sting (M 284 (k + 1)) (M 284 (k + 13)) - M 280 j + (if 0 < k ∧ M 284 (k + 1) = 4 then 5 else 0)) = _
                first | (rw [if_pos (by omega)]; done) | (rw [if_neg (by omega)]; done)
              have he : (fo (bestG (gainF (fun j => M 284 (j + 1)) (fun j => M 284 (j + 13)) (M 280 j))) (k + 1) (0, 0)) = ((fo (bestG (gainF (fun j => M 284 (j + 1)) (fun j => M 284 (j + 13)) (M 280 j))) k (0, 0)).1, ((sumTo (gainF (fun j => M 284 (j + 1)) (fun j => M 284 (j + 13)) (M 280 j)) k) + ((((worth (M 284 (k + 1)) (M 284 (k + 13))) - (sting (M 284 (k + 1)) (M 284 (k + 13)))) - (M 280 j)) + 0))) := by
                rw [fo, bestG, hs0]
                first | (exfalso; omega) | (rw [if_pos (by omega)]; done) | (rw [if_neg (by omega)]; done)
              refine go_eq (lv' := [(6, vI (((k + 1) : Nat) : Int)), (3, vI ((fo (bestG (gainF (fun j => M 284 (j + 1)) (fun j => M 284 (j + 13)) (M 280 j))) (k + 1) (0, 0)).1)), (4, vI ((fo (bestG (gainF (fun j => M 284 (j + 1)) (fun j => M 284 (j + 13)) (M 280 j))) (k + 1) (0, 0)).2)), (5, vI (sumTo (gainF (fun j => M 284 (j + 1)) (fun j => M 284 (j + 13)) (M 280 j)) (k + 1))), (0, vR 279), (1, vI ((j : Nat) : Int)), (2, vI a)]) (by rw [he, hs0]; rfl) rfl rfl rfl rfl ?_
              exact ih (k + 1) (by omega) (by omega)
          · refine go_iload 1 dX10_worthIt_102 rfl ?_
            refine go_iconst dX10_worthIt_104 (by decide) ?_
            refine gx_iadd (v := ((k + 1 : Nat) : Int)) dX10_worthIt_105 (by omega) ⟨by omega, by omega⟩ ?_
            refine go_goto (tgt := 110) dX10_worthIt_106 rfl ?_
            refine go_istore_n (lv' := [(3, vI ((k + 1 : Nat) : Int)), (5, vI ((sumTo (gainF (fun j => M 284 (j + 1)) (fun j => M 284 (j + 13)) (M 280 j)) k) + ((((worth (M 284 (k + 1)) (M 284 (k + 13))) - (sting (M 284 (k + 1)) (M 284 (k + 13)))) - (M 280 j)) + 0))), (6, vI ((k : Nat) : Int)), (4, vI ((fo (bestG (gainF (fun j => M 284 (j + 1)) (fun j => M 284 (j + 13)) (M 280 j))) k (0, 0)).2)), (0, vR 279), (1, vI ((j : Nat) : Int)), (2, vI a)]) dX10_worthIt_110 rfl (by decide) rfl ?_
            refine go_iload 1 dX10_worthIt_111 rfl ?_
            refine go_iload 3 dX10_worthIt_113 rfl ?_
            refine go_icmp_le (tgt := 123) dX10_worthIt_115 rfl (fun c13 => ?_) (fun c13 => ?_)
            · refine go_iload 3 dX10_worthIt_123 rfl ?_
              refine go_istore (lv' := [(4, vI ((fo (bestG (gainF (fun j => M 284 (j + 1)) (fun j => M 284 (j + 13)) (M 280 j))) k (0, 0)).2)), (3, vI ((k + 1 : Nat) : Int)), (5, vI ((sumTo (gainF (fun j => M 284 (j + 1)) (fun j => M 284 (j + 13)) (M 280 j)) k) + ((((worth (M 284 (k + 1)) (M 284 (k + 13))) - (sting (M 284 (k + 1)) (M 284 (k + 13)))) - (M 280 j)) + 0))), (6, vI ((k : Nat) : Int)), (0, vR 279), (1, vI ((j : Nat) : Int)), (2, vI a)]) dX10_worthIt_125 (by decide) rfl ?_
              refine gx_iinc (v := ((k + 1 : Nat) : Int)) (lv' := [(6, vI ((k + 1 : Nat) : Int)), (4, vI ((fo (bestG (gainF (fun j => M 284 (j + 1)) (fun j => M 284 (j + 13)) (M 280 j))) k (0, 0)).2)), (3, vI ((k + 1 : Nat) : Int)), (5, vI ((sumTo (gainF (fun j => M 284 (j + 1)) (fun j => M 284 (j + 13)) (M 280 j)) k) + ((((worth (M 284 (k + 1)) (M 284 (k + 13))) - (sting (M 284 (k + 1)) (M 284 (k + 13)))) - (M 280 j)) + 0))), (0, vR 279), (1, vI ((j : Nat) : Int)), (2, vI a)]) 3 dX10_worthIt_127 rfl (by omega) ⟨by omega, by omega⟩ (by decide) rfl ?_
              refine go_goto (tgt := 35) dX10_worthIt_130 rfl ?_
              refine go_lv [0, 2, 1, 3, 4, 5, 6] rfl ?_
              have hs0 : sumTo (gainF (fun j => M 284 (j + 1)) (fun j => M 284 (j + 13)) (M 280 j)) (k + 1) = ((sumTo (gainF (fun j => M 284 (j + 1)) (fun j => M 284 (j + 13)) (M 280 j)) k) + ((((worth (M 284 (k + 1)) (M 284 (k + 13))) - (sting (M 284 (k + 1)) (M 284 (k + 13)))) - (M 280 j)) + 0)) := by
                show sumTo (gainF (fun j => M 284 (j + 1)) (fun j => M 284 (j + 13)) (M 280 j)) k + (worth (M 284 (k + 1)) (M 284 (k + 13)) - sting (M 284 (k + 1)) (M 284 (k + 13)) - M 280 j + (if 0 < k ∧ M 284 (k + 1) = 4 then 5 else 0)) = _
                first | (rw [if_pos (by omega)]; done) | (rw [if_neg (by omega)]; done)
              have he : (fo (bestG (gainF (fun j => M 284 (j + 1)) (fun j => M 284 (j + 13)) (M 280 j))) (k + 1) (0, 0)) = (((k + 1 : Nat) : Int), (fo (bestG (gainF (fun j => M 284 (j + 1)) (fun j => M 284 (j + 13)) (M 280 j))) k (0, 0)).2) := by
                rw [fo, bestG, hs0]
                first | (exfalso; omega) | (rw [if_pos (by omega)]; done) | (rw [if_neg (by omega)]; done)
              refine go_eq (lv' := [(6, vI (((k + 1) : Nat) : Int)), (3, vI ((fo (bestG (gainF (fun j => M 284 (j + 1)) (fun j => M 284 (j + 13)) (M 280 j))) (k + 1) (0, 0)).1)), (4, vI ((fo (bestG (gainF (fun j => M 284 (j + 1)) (fun j => M 284 (j + 13)) (M 280 j))) (k + 1) (0, 0)).2)), (5, vI (sumTo (gainF (fun j => M 284 (j + 1)) (fun j => M 284 (j + 13)) (M 280 j)) (k + 1))), (0, vR 279), (1, vI ((j : Nat) : Int)), (2, vI a)]) (by rw [he, hs0]; rfl) rfl rfl rfl rfl ?_
              exact ih (k + 1) (by omega) (by omega)
            · refine go_iload 1 dX10_worthIt_118 rfl ?_
              refine go_goto (tgt := 125) dX10_worthIt_120 rfl ?_
              refine go_istore (lv' := [(4, vI ((sumTo (gainF (fun j => M 284 (j + 1)) (fun j => M 284 (j + 13)) (M 280 j)) k) + ((((worth (M 284 (k + 1)) (M 284 (k + 13))) - (sting (M 284 (k + 1)) (M 284 (k + 13)))) - (M 280 j)) + 0))), (3, vI ((k + 1 : Nat) : Int)), (5, vI ((sumTo (gainF (fun j => M 284 (j + 1)) (fun j => M 284 (j + 13)) (M 280 j)) k) + ((((worth (M 284 (k + 1)) (M 284 (k + 13))) - (sting (M 284 (k + 1)) (M 284 (k + 13)))) - (M 280 j)) + 0))), (6, vI ((k : Nat) : Int)), (0, vR 279), (1, vI ((j : Nat) : Int)), (2, vI a)]) dX10_worthIt_125 (by decide) rfl ?_
              refine gx_iinc (v := ((k + 1 : Nat) : Int)) (lv' := [(6, vI ((k + 1 : Nat) : Int)), (4, vI ((sumTo (gainF (fun j => M 284 (j + 1)) (fun j => M 284 (j + 13)) (M 280 j)) k) + ((((worth (M 284 (k + 1)) (M 284 (k + 13))) - (sting (M 284 (k + 1)) (M 284 (k + 13)))) - (M 280 j)) + 0))), (3, vI ((k + 1 : Nat) : Int)), (5, vI ((sumTo (gainF (fun j => M 284 (j + 1)) (fun j => M 284 (j + 13)) (M 280 j)) k) + ((((worth (M 284 (k + 1)) (M 284 (k + 13))) - (sting (M 284 (k + 1)) (M 284 (k + 13)))) - (M 280 j)) + 0))), (0, vR 279), (1, vI ((j : Nat) : Int)), (2, vI a)]) 3 dX10_worthIt_127 rfl (by omega) ⟨by omega, by omega⟩ (by decide) rfl ?_
              refine go_goto (tgt := 35) dX10_worthIt_130 rfl ?_
              refine go_lv [0, 2, 1, 3, 4, 5, 6] rfl ?_
              have hs0 : sumTo (gainF (fun j => M 284 (j + 1)) (fun j => M 284 (j + 13)) (M 280 j)) (k + 1) = ((sumTo (gainF (fun j => M 284 (j + 1)) (fun j => M 284 (j + 13)) (M 280 j)) k) + ((((worth (M 284 (k + 1)) (M 284 (k + 13))) - (sting (M 284 (k + 1)) (M 284 (k + 13)))) - (M 280 j)) + 0)) := by
                show sumTo (gainF (fun j => M 284 (j + 1)) (fun j => M 284 (j + 13)) (M 280 j)) k + (worth (M 284 (k + 1)) (M 284 (k + 13)) - sting (M 284 (k + 1)) (M 284 (k + 13)) - M 280 j + (if 0 < k ∧ M 284 (k + 1) = 4 then 5 else 0)) = _
                first | (rw [if_pos (by omega)]; done) | (rw [if_neg (by omega)]; done)
              have he : (fo (bestG (gainF (fun j => M 284 (j + 1)) (fun j => M 284 (j + 13)) (M 280 j))) (k + 1) (0, 0)) = (((k + 1 : Nat) : Int), ((sumTo (gainF (fun j => M 284 (j + 1)) (fun j => M 284 (j + 13)) (M 280 j)) k) + ((((worth (M 284 (k + 1)) (M 284 (k + 13))) - (sting (M 284 (k + 1)) (M 284 (k + 13)))) - (M 280 j)) + 0))) := by
                rw [fo, bestG, hs0]
                first | (exfalso; omega) | (rw [if_pos (by omega)]; done) | (rw [if_neg (by omega)]; done)
              refine go_eq (lv' := [(6, vI (((k + 1) : Nat) : Int)), (3, vI ((fo (bestG (gainF (fun j => M 284 (j + 1)) (fun j => M 284 (j + 13)) (M 280 j))) (k + 1) (0, 0)).1)), (4, vI ((fo (bestG (gainF (fun j => M 284 (j + 1)) (fun j => M 284 (j + 13)) (M 280 j))) (k + 1) (0, 0)).2)), (5, vI (sumTo (gainF (fun j => M 284 (j + 1)) (fun j => M 284 (j + 13)) (M 280 j)) (k + 1))), (0, vR 279), (1, vI ((j : Nat) : Int)), (2, vI a)]) (by rw [he, hs0]; rfl) rfl rfl rfl rfl ?_
              exact ih (k + 1) (by omega) (by omega)
        · refine go_iconst dX10_worthIt_86 (by decide) ?_
          refine go_goto (tgt := 91) dX10_worthIt_87 rfl ?_
          refine gx_iadd (v := ((((worth (M 284 (k + 1)) (M 284 (k + 13))) - (sting (M 284 (k + 1)) (M 284 (k + 13)))) - (M 280 j)) + 5)) dX10_worthIt_91 rfl ⟨by omega, by omega⟩ ?_
          refine gx_iadd (v := ((sumTo (gainF (fun j => M 284 (j + 1)) (fun j => M 284 (j + 13)) (M 280 j)) k) + ((((worth (M 284 (k + 1)) (M 284 (k + 13))) - (sting (M 284 (k + 1)) (M 284 (k + 13)))) - (M 280 j)) + 5))) dX10_worthIt_92 rfl ⟨by omega, by omega⟩ ?_
          refine go_istore (lv' := [(5, vI ((sumTo (gainF (fun j => M 284 (j + 1)) (fun j => M 284 (j + 13)) (M 280 j)) k) + ((((worth (M 284 (k + 1)) (M 284 (k + 13))) - (sting (M 284 (k + 1)) (M 284 (k + 13)))) - (M 280 j)) + 5))), (6, vI ((k : Nat) : Int)), (3, vI ((fo (bestG (gainF (fun j => M 284 (j + 1)) (fun j => M 284 (j + 13)) (M 280 j))) k (0, 0)).1)), (4, vI ((fo (bestG (gainF (fun j => M 284 (j + 1)) (fun j => M 284 (j + 13)) (M 280 j))) k (0, 0)).2)), (0, vR 279), (1, vI ((j : Nat) : Int)), (2, vI a)]) dX10_worthIt_93 (by decide) rfl ?_
          refine go_iload 0 dX10_worthIt_95 rfl ?_
          refine go_iload 3 dX10_worthIt_97 rfl ?_
          refine go_icmp_le (tgt := 109) dX10_worthIt_99 rfl (fun c14 => ?_) (fun c14 => ?_)
          · refine go_iload_n 2 dX10_worthIt_109 rfl rfl ?_
            refine go_istore_n (lv' := [(3, vI ((fo (bestG (gainF (fun j => M 284 (j + 1)) (fun j => M 284 (j + 13)) (M 280 j))) k (0, 0)).1)), (5, vI ((sumTo (gainF (fun j => M 284 (j + 1)) (fun j => M 284 (j + 13)) (M 280 j)) k) + ((((worth (M 284 (k + 1)) (M 284 (k + 13))) - (sting (M 284 (k + 1)) (M 284 (k + 13)))) - (M 280 j)) + 5))), (6, vI ((k : Nat) : Int)), (4, vI ((fo (bestG (gainF (fun j => M 284 (j + 1)) (fun j => M 284 (j + 13)) (M 280 j))) k (0, 0)).2)), (0, vR 279), (1, vI ((j : Nat) : Int)), (2, vI a)]) dX10_worthIt_110 rfl (by decide) rfl ?_
            refine go_iload 1 dX10_worthIt_111 rfl ?_
            refine go_iload 3 dX10_worthIt_113 rfl ?_
            refine go_icmp_le (tgt := 123) dX10_worthIt_115 rfl (fun c15 => ?_) (fun c15 => ?_)
            · refine go_iload 3 dX10_worthIt_123 rfl ?_
              refine go_istore (lv' := [(4, vI ((fo (bestG (gainF (fun j => M 284 (j + 1)) (fun j => M 284 (j + 13)) (M 280 j))) k (0, 0)).2)), (3, vI ((fo (bestG (gainF (fun j => M 284 (j + 1)) (fun j => M 284 (j + 13)) (M 280 j))) k (0, 0)).1)), (5, vI ((sumTo (gainF (fun j => M 284 (j + 1)) (fun j => M 284 (j + 13)) (M 280 j)) k) + ((((worth (M 284 (k + 1)) (M 284 (k + 13))) - (sting (M 284 (k + 1)) (M 284 (k + 13)))) - (M 280 j)) + 5))), (6, vI ((k : Nat) : Int)), (0, vR 279), (1, vI ((j : Nat) : Int)), (2, vI a)]) dX10_worthIt_125 (by decide) rfl ?_
              refine gx_iinc (v := ((k + 1 : Nat) : Int)) (lv' := [(6, vI ((k + 1 : Nat) : Int)), (4, vI ((fo (bestG (gainF (fun j => M 284 (j + 1)) (fun j => M 284 (j + 13)) (M 280 j))) k (0, 0)).2)), (3, vI ((fo (bestG (gainF (fun j => M 284 (j + 1)) (fun j => M 284 (j + 13)) (M 280 j))) k (0, 0)).1)), (5, vI ((sumTo (gainF (fun j => M 284 (j + 1)) (fun j => M 284 (j + 13)) (M 280 j)) k) + ((((worth (M 284 (k + 1)) (M 284 (k + 13))) - (sting (M 284 (k + 1)) (M 284 (k + 13)))) - (M 280 j)) + 5))), (0, vR 279), (1, vI ((j : Nat) : Int)), (2, vI a)]) 3 dX10_worthIt_127 rfl (by omega) ⟨by omega, by omega⟩ (by decide) rfl ?_
              refine go_goto (tgt := 35) dX10_worthIt_130 rfl ?_
              refine go_lv [0, 2, 1, 3, 4, 5, 6] rfl ?_
              have hs0 : sumTo (gainF (fun j => M 284 (j + 1)) (fun j => M 284 (j + 13)) (M 280 j)) (k + 1) = ((sumTo (gainF (fun j => M 284 (j + 1)) (fun j => M 284 (j + 13)) (M 280 j)) k) + ((((worth (M 284 (k + 1)) (M 284 (k + 13))) - (sting (M 284 (k + 1)) (M 284 (k + 13)))) - (M 280 j)) + 5)) := by
                show sumTo (gainF (fun j => M 284 (j + 1)) (fun j => M 284 (j + 13)) (M 280 j)) k + (worth (M 284 (k + 1)) (M 284 (k + 13)) - sting (M 284 (k + 1)) (M 284 (k + 13)) - M 280 j + (if 0 < k ∧ M 284 (k + 1) = 4 then 5 else 0)) = _
                first | (rw [if_pos (by omega)]; done) | (rw [if_neg (by omega)]; done)
              have he : (fo (bestG (gainF (fun j => M 284 (j + 1)) (fun j => M 284 (j + 13)) (M 280 j))) (k + 1) (0, 0)) = ((fo (bestG (gainF (fun j => M 284 (j + 1)) (fun j => M 284 (j + 13)) (M 280 j))) k (0, 0)).1, (fo (bestG (gainF (fun j => M 284 (j + 1)) (fun j => M 284 (j + 13)) (M 280 j))) k (0, 0)).2) := by
                rw [fo, bestG, hs0]
                first | (exfalso; omega) | (rw [if_pos (by omega)]; done) | (rw [if_neg (by omega)]; done)
              refine go_eq (lv' := [(6, vI (((k + 1) : Nat) : Int)), (3, vI ((fo (bestG (gainF (fun j => M 284 (j + 1)) (fun j => M 284 (j + 13)) (M 280 j))) (k + 1) (0, 0)).1)), (4, vI ((fo (bestG (gainF (fun j => M 284 (j + 1)) (fun j => M 284 (j + 13)) (M 280 j))) (k + 1) (0, 0)).2)), (5, vI (sumTo (gainF (fun j => M 284 (j + 1)) (fun j => M 284 (j + 13)) (M 280 j)) (k + 1))), (0, vR 279), (1, vI ((j : Nat) : Int)), (2, vI a)]) (by rw [he, hs0]; rfl) rfl rfl rfl rfl ?_
              exact ih (k + 1) (by omega) (by omega)
            · refine go_iload 1 dX10_worthIt_118 rfl ?_
              refine go_goto (tgt := 125) dX10_worthIt_120 rfl ?_
              refine go_istore (lv' := [(4, vI ((sumTo (gainF (fun j => M 284 (j + 1)) (fun j => M 284 (j + 13)) (M 280 j)) k) + ((((worth (M 284 (k + 1)) (M 284 (k + 13))) - (sting (M 284 (k + 1)) (M 284 (k + 13)))) - (M 280 j)) + 5))), (3, vI ((fo (bestG (gainF (fun j => M 284 (j + 1)) (fun j => M 284 (j + 13)) (M 280 j))) k (0, 0)).1)), (5, vI ((sumTo (gainF (fun j => M 284 (j + 1)) (fun j => M 284 (j + 13)) (M 280 j)) k) + ((((worth (M 284 (k + 1)) (M 284 (k + 13))) - (sting (M 284 (k + 1)) (M 284 (k + 13)))) - (M 280 j)) + 5))), (6, vI ((k : Nat) : Int)), (0, vR 279), (1, vI ((j : Nat) : Int)), (2, vI a)]) dX10_worthIt_125 (by decide) rfl ?_
              refine gx_iinc (v := ((k + 1 : Nat) : Int)) (lv' := [(6, vI ((k + 1 : Nat) : Int)), (4, vI ((sumTo (gainF (fun j => M 284 (j + 1)) (fun j => M 284 (j + 13)) (M 280 j)) k) + ((((worth (M 284 (k + 1)) (M 284 (k + 13))) - (sting (M 284 (k + 1)) (M 284 (k + 13)))) - (M 280 j)) + 5))), (3, vI ((fo (bestG (gainF (fun j => M 284 (j + 1)) (fun j => M 284 (j + 13)) (M 280 j))) k (0, 0)).1)), (5, vI ((sumTo (gainF (fun j => M 284 (j + 1)) (fun j => M 284 (j + 13)) (M 280 j)) k) + ((((worth (M 284 (k + 1)) (M 284 (k + 13))) - (sting (M 284 (k + 1)) (M 284 (k + 13)))) - (M 280 j)) + 5))), (0, vR 279), (1, vI ((j : Nat) : Int)), (2, vI a)]) 3 dX10_worthIt_127 rfl (by omega) ⟨by omega, by omega⟩ (by decide) rfl ?_
              refine go_goto (tgt := 35) dX10_worthIt_130 rfl ?_
              refine go_lv [0, 2, 1, 3, 4, 5, 6] rfl ?_
              have hs0 : sumTo (gainF (fun j => M 284 (j + 1)) (fun j => M 284 (j + 13)) (M 280 j)) (k + 1) = ((sumTo (gainF (fun j => M 284 (j + 1)) (fun j => M 284 (j + 13)) (M 280 j)) k) + ((((worth (M 284 (k + 1)) (M 284 (k + 13))) - (sting (M 284 (k + 1)) (M 284 (k + 13)))) - (M 280 j)) + 5)) := by
                show sumTo (gainF (fun j => M 284 (j + 1)) (fun j => M 284 (j + 13)) (M 280 j)) k + (worth (M 284 (k + 1)) (M 284 (k + 13)) - sting (M 284 (k + 1)) (M 284 (k + 13)) - M 280 j + (if 0 < k ∧ M 284 (k + 1) = 4 then 5 else 0)) = _
                first | (rw [if_pos (by omega)]; done) | (rw [if_neg (by omega)]; done)
              have he : (fo (bestG (gainF (fun j => M 284 (j + 1)) (fun j => M 284 (j + 13)) (M 280 j))) (k + 1) (0, 0)) = ((fo (bestG (gainF (fun j => M 284 (j + 1)) (fun j => M 284 (j + 13)) (M 280 j))) k (0, 0)).1, ((sumTo (gainF (fun j => M 284 (j + 1)) (fun j => M 284 (j + 13)) (M 280 j)) k) + ((((worth (M 284 (k + 1)) (M 284 (k + 13))) - (sting (M 284 (k + 1)) (M 284 (k + 13)))) - (M 280 j)) + 5))) := by
                rw [fo, bestG, hs0]
                first | (exfalso; omega) | (rw [if_pos (by omega)]; done) | (rw [if_neg (by omega)]; done)
              refine go_eq (lv' := [(6, vI (((k + 1) : Nat) : Int)), (3, vI ((fo (bestG (gainF (fun j => M 284 (j + 1)) (fun j => M 284 (j + 13)) (M 280 j))) (k + 1) (0, 0)).1)), (4, vI ((fo (bestG (gainF (fun j => M 284 (j + 1)) (fun j => M 284 (j + 13)) (M 280 j))) (k + 1) (0, 0)).2)), (5, vI (sumTo (gainF (fun j => M 284 (j + 1)) (fun j => M 284 (j + 13)) (M 280 j)) (k + 1))), (0, vR 279), (1, vI ((j : Nat) : Int)), (2, vI a)]) (by rw [he, hs0]; rfl) rfl rfl rfl rfl ?_
              exact ih (k + 1) (by omega) (by omega)
          · refine go_iload 1 dX10_worthIt_102 rfl ?_
            refine go_iconst dX10_worthIt_104 (by decide) ?_
            refine gx_iadd (v := ((k + 1 : Nat) : Int)) dX10_worthIt_105 (by omega) ⟨by omega, by omega⟩ ?_
            refine go_goto (tgt := 110) dX10_worthIt_106 rfl ?_
            refine go_istore_n (lv' := [(3, vI ((k + 1 : Nat) : Int)), (5, vI ((sumTo (gainF (fun j => M 284 (j + 1)) (fun j => M 284 (j + 13)) (M 280 j)) k) + ((((worth (M 284 (k + 1)) (M 284 (k + 13))) - (sting (M 284 (k + 1)) (M 284 (k + 13)))) - (M 280 j)) + 5))), (6, vI ((k : Nat) : Int)), (4, vI ((fo (bestG (gainF (fun j => M 284 (j + 1)) (fun j => M 284 (j + 13)) (M 280 j))) k (0, 0)).2)), (0, vR 279), (1, vI ((j : Nat) : Int)), (2, vI a)]) dX10_worthIt_110 rfl (by decide) rfl ?_
            refine go_iload 1 dX10_worthIt_111 rfl ?_
            refine go_iload 3 dX10_worthIt_113 rfl ?_
            refine go_icmp_le (tgt := 123) dX10_worthIt_115 rfl (fun c16 => ?_) (fun c16 => ?_)
            · refine go_iload 3 dX10_worthIt_123 rfl ?_
              refine go_istore (lv' := [(4, vI ((fo (bestG (gainF (fun j => M 284 (j + 1)) (fun j => M 284 (j + 13)) (M 280 j))) k (0, 0)).2)), (3, vI ((k + 1 : Nat) : Int)), (5, vI ((sumTo (gainF (fun j => M 284 (j + 1)) (fun j => M 284 (j + 13)) (M 280 j)) k) + ((((worth (M 284 (k + 1)) (M 284 (k + 13))) - (sting (M 284 (k + 1)) (M 284 (k + 13)))) - (M 280 j)) + 5))), (6, vI ((k : Nat) : Int)), (0, vR 279), (1, vI ((j : Nat) : Int)), (2, vI a)]) dX10_worthIt_125 (by decide) rfl ?_
              refine gx_iinc (v := ((k + 1 : Nat) : Int)) (lv' := [(6, vI ((k + 1 : Nat) : Int)), (4, vI ((fo (bestG (gainF (fun j => M 284 (j + 1)) (fun j => M 284 (j + 13)) (M 280 j))) k (0, 0)).2)), (3, vI ((k + 1 : Nat) : Int)), (5, vI ((sumTo (gainF (fun j => M 284 (j + 1)) (fun j => M 284 (j + 13)) (M 280 j)) k) + ((((worth (M 284 (k + 1)) (M 284 (k + 13))) - (sting (M 284 (k + 1)) (M 284 (k + 13)))) - (M 280 j)) + 5))), (0, vR 279), (1, vI ((j : Nat) : Int)), (2, vI a)]) 3 dX10_worthIt_127 rfl (by omega) ⟨by omega, by omega⟩ (by decide) rfl ?_
              refine go_goto (tgt := 35) dX10_worthIt_130 rfl ?_
              refine go_lv [0, 2, 1, 3, 4, 5, 6] rfl ?_
              have hs0 : sumTo (gainF (fun j => M 284 (j + 1)) (fun j => M 284 (j + 13)) (M 280 j)) (k + 1) = ((sumTo (gainF (fun j => M 284 (j + 1)) (fun j => M 284 (j + 13)) (M 280 j)) k) + ((((worth (M 284 (k + 1)) (M 284 (k + 13))) - (sting (M 284 (k + 1)) (M 284 (k + 13)))) - (M 280 j)) + 5)) := by
                show sumTo (gainF (fun j => M 284 (j + 1)) (fun j => M 284 (j + 13)) (M 280 j)) k + (worth (M 284 (k + 1)) (M 284 (k + 13)) - sting (M 284 (k + 1)) (M 284 (k + 13)) - M 280 j + (if 0 < k ∧ M 284 (k + 1) = 4 then 5 else 0)) = _
                first | (rw [if_pos (by omega)]; done) | (rw [if_neg (by omega)]; done)
              have he : (fo (bestG (gainF (fun j => M 284 (j + 1)) (fun j => M 284 (j + 13)) (M 280 j))) (k + 1) (0, 0)) = (((k + 1 : Nat) : Int), (fo (bestG (gainF (fun j => M 284 (j + 1)) (fun j => M 284 (j + 13)) (M 280 j))) k (0, 0)).2) := by
                rw [fo, bestG, hs0]
                first | (exfalso; omega) | (rw [if_pos (by omega)]; done) | (rw [if_neg (by omega)]; done)
              refine go_eq (lv' := [(6, vI (((k + 1) : Nat) : Int)), (3, vI ((fo (bestG (gainF (fun j => M 284 (j + 1)) (fun j => M 284 (j + 13)) (M 280 j))) (k + 1) (0, 0)).1)), (4, vI ((fo (bestG (gainF (fun j => M 284 (j + 1)) (fun j => M 284 (j + 13)) (M 280 j))) (k + 1) (0, 0)).2)), (5, vI (sumTo (gainF (fun j => M 284 (j + 1)) (fun j => M 284 (j + 13)) (M 280 j)) (k + 1))), (0, vR 279), (1, vI ((j : Nat) : Int)), (2, vI a)]) (by rw [he, hs0]; rfl) rfl rfl rfl rfl ?_
              exact ih (k + 1) (by omega) (by omega)
            · refine go_iload 1 dX10_worthIt_118 rfl ?_
              refine go_goto (tgt := 125) dX10_worthIt_120 rfl ?_
              refine go_istore (lv' := [(4, vI ((sumTo (gainF (fun j => M 284 (j + 1)) (fun j => M 284 (j + 13)) (M 280 j)) k) + ((((worth (M 284 (k + 1)) (M 284 (k + 13))) - (sting (M 284 (k + 1)) (M 284 (k + 13)))) - (M 280 j)) + 5))), (3, vI ((k + 1 : Nat) : Int)), (5, vI ((sumTo (gainF (fun j => M 284 (j + 1)) (fun j => M 284 (j + 13)) (M 280 j)) k) + ((((worth (M 284 (k + 1)) (M 284 (k + 13))) - (sting (M 284 (k + 1)) (M 284 (k + 13)))) - (M 280 j)) + 5))), (6, vI ((k : Nat) : Int)), (0, vR 279), (1, vI ((j : Nat) : Int)), (2, vI a)]) dX10_worthIt_125 (by decide) rfl ?_
              refine gx_iinc (v := ((k + 1 : Nat) : Int)) (lv' := [(6, vI ((k + 1 : Nat) : Int)), (4, vI ((sumTo (gainF (fun j => M 284 (j + 1)) (fun j => M 284 (j + 13)) (M 280 j)) k) + ((((worth (M 284 (k + 1)) (M 284 (k + 13))) - (sting (M 284 (k + 1)) (M 284 (k + 13)))) - (M 280 j)) + 5))), (3, vI ((k + 1 : Nat) : Int)), (5, vI ((sumTo (gainF (fun j => M 284 (j + 1)) (fun j => M 284 (j + 13)) (M 280 j)) k) + ((((worth (M 284 (k + 1)) (M 284 (k + 13))) - (sting (M 284 (k + 1)) (M 284 (k + 13)))) - (M 280 j)) + 5))), (0, vR 279), (1, vI ((j : Nat) : Int)), (2, vI a)]) 3 dX10_worthIt_127 rfl (by omega) ⟨by omega, by omega⟩ (by decide) rfl ?_
              refine go_goto (tgt := 35) dX10_worthIt_130 rfl ?_
              refine go_lv [0, 2, 1, 3, 4, 5, 6] rfl ?_
              have hs0 : sumTo (gainF (fun j => M 284 (j + 1)) (fun j => M 284 (j + 13)) (M 280 j)) (k + 1) = ((sumTo (gainF (fun j => M 284 (j + 1)) (fun j => M 284 (j + 13)) (M 280 j)) k) + ((((worth (M 284 (k + 1)) (M 284 (k + 13))) - (sting (M 284 (k + 1)) (M 284 (k + 13)))) - (M 280 j)) + 5)) := by
                show sumTo (gainF (fun j => M 284 (j + 1)) (fun j => M 284 (j + 13)) (M 280 j)) k + (worth (M 284 (k + 1)) (M 284 (k + 13)) - sting (M 284 (k + 1)) (M 284 (k + 13)) - M 280 j + (if 0 < k ∧ M 284 (k + 1) = 4 then 5 else 0)) = _
                first | (rw [if_pos (by omega)]; done) | (rw [if_neg (by omega)]; done)
              have he : (fo (bestG (gainF (fun j => M 284 (j + 1)) (fun j => M 284 (j + 13)) (M 280 j))) (k + 1) (0, 0)) = (((k + 1 : Nat) : Int), ((sumTo (gainF (fun j => M 284 (j + 1)) (fun j => M 284 (j + 13)) (M 280 j)) k) + ((((worth (M 284 (k + 1)) (M 284 (k + 13))) - (sting (M 284 (k + 1)) (M 284 (k + 13)))) - (M 280 j)) + 5))) := by
                rw [fo, bestG, hs0]
                first | (exfalso; omega) | (rw [if_pos (by omega)]; done) | (rw [if_neg (by omega)]; done)
              refine go_eq (lv' := [(6, vI (((k + 1) : Nat) : Int)), (3, vI ((fo (bestG (gainF (fun j => M 284 (j + 1)) (fun j => M 284 (j + 13)) (M 280 j))) (k + 1) (0, 0)).1)), (4, vI ((fo (bestG (gainF (fun j => M 284 (j + 1)) (fun j => M 284 (j + 13)) (M 280 j))) (k + 1) (0, 0)).2)), (5, vI (sumTo (gainF (fun j => M 284 (j + 1)) (fun j => M 284 (j + 13)) (M 280 j)) (k + 1))), (0, vR 279), (1, vI ((j : Nat) : Int)), (2, vI a)]) (by rw [he, hs0]; rfl) rfl rfl rfl rfl ?_
              exact ih (k + 1) (by omega) (by omega)

set_option maxHeartbeats 4000000 in
set_option maxRecDepth 100000 in
theorem ok_X10_worthIt_in {w E L j : Nat} {a : Int} {M : inm} {Q : Int → Nat → rfm → inm → Prop} (hE : M 279 2 = (E : Int) ∧ E ≤ 5) (hL : Lay10 M L) (hca : ∀ e, e < E → 0 ≤ M 280 e ∧ M 280 e ≤ 9) (hj : j < E) (ha : a = 0 ∨ a = 1) (g0 : a = 0 → Q (fo (bestG (gainF (fun j => M 284 (j + 1)) (fun j => M 284 (j + 13)) (M 280 j))) L (0, 0)).1 303 (PP w) M) (g1 : a = 1 → Q ((fo (bestG (gainF (fun j => M 284 (j + 1)) (fun j => M 284 (j + 13)) (M 280 j))) L (0, 0)).2 + 1000) 303 (PP w) M) : OkI yX10_worthIt cX10_worthIt 7 2 0 0 (some .int) [vR 279, vI ((j : Nat) : Int), vI a] 303 (PP w) M Q := by
  refine OkI.of (by decide +kernel) (by decide +kernel) (Nat.le_of_ble_eq_true rfl) ?_
  refine go_eq (lv' := [(0, vR 279), (1, vI ((j : Nat) : Int)), (2, vI a)]) rfl rfl rfl rfl rfl ?_
  have hE5 := hE.2
  refine go_aload_n 0 dX10_worthIt_0 rfl rfl ?_
  refine go_iload_n 1 dX10_worthIt_1 rfl rfl ?_
  refine go_callVI (av := [vI ((j : Nat) : Int)]) (st := []) (a := 279) (mc2 := 0) (ms2 := 0) dX10_worthIt_2 cw10_230 (by decide) rfl rfl (Nat.le_of_ble_eq_true rfl) rfl rfl kd_279 ⟨_, _, rfl⟩ (by decide) (by omega) (ok_X10_isExecutor hE (fun _ _ => ?_) (fun h => absurd ⟨by omega, by omega⟩ h))
  refine go_if_ne (tgt := 11) dX10_worthIt_5 rfl (fun c1 => ?_) (fun c1 => ?_)
  · refine go_iload_n 2 dX10_worthIt_11 rfl rfl ?_
    refine go_i2l dX10_worthIt_12 ?_
    refine go_lconst (z := 0) dX10_worthIt_13 (by decide) (by decide) ?_
    refine go_lconst (z := 1) dX10_worthIt_14 (by decide) (by decide) ?_
    refine go_callSI (av := [vL a, vL 0, vL 1]) (st := []) (mc2 := 0) (ms2 := 0) dX10_worthIt_15 cw10_87 (by decide) rfl rfl (Nat.le_of_ble_eq_true rfl) rfl rfl (ok_X10_in (fun _ _ => ?_) (fun h => absurd ⟨by omega, by omega⟩ h))
    refine go_if_ne (tgt := 24) dX10_worthIt_18 rfl (fun c2 => ?_) (fun c2 => ?_)
    · refine go_iconst dX10_worthIt_24 (by decide) ?_
      refine go_istore_n (lv' := [(3, vI 0), (0, vR 279), (1, vI ((j : Nat) : Int)), (2, vI a)]) dX10_worthIt_25 rfl (by decide) rfl ?_
      refine go_iconst dX10_worthIt_26 (by decide) ?_
      refine go_istore (lv' := [(4, vI 0), (3, vI 0), (0, vR 279), (1, vI ((j : Nat) : Int)), (2, vI a)]) dX10_worthIt_27 (by decide) rfl ?_
      refine go_iconst dX10_worthIt_29 (by decide) ?_
      refine go_istore (lv' := [(5, vI 0), (4, vI 0), (3, vI 0), (0, vR 279), (1, vI ((j : Nat) : Int)), (2, vI a)]) dX10_worthIt_30 (by decide) rfl ?_
      refine go_iconst dX10_worthIt_32 (by decide) ?_
      refine go_istore (lv' := [(6, vI 0), (5, vI 0), (4, vI 0), (3, vI 0), (0, vR 279), (1, vI ((j : Nat) : Int)), (2, vI a)]) dX10_worthIt_33 (by decide) rfl ?_
      refine go_lv [0, 3, 2, 1, 4, 5, 6] rfl ?_
      exact lp_X10_worthIt hL (hca j hj) (by omega) (by omega) g0 g1 (L + 1) 0 (by omega) (by omega)
    · exact absurd c2 (by decide)
  · exact absurd c1 (by decide)

set_option maxHeartbeats 4000000 in
set_option maxRecDepth 100000 in
theorem ok_X10_worthIt_out {w E : Nat} {k a : Int} {M : inm} {Q : Int → Nat → rfm → inm → Prop} (hE : M 279 2 = (E : Int) ∧ E ≤ 5) (hk : ¬ ((0 ≤ k ∧ k < (E : Int)) ∧ (a = 0 ∨ a = 1))) (h0 : ¬ (0 ≤ k ∧ k < (E : Int)) → Q (-1000000001) 303 (PP w) M) (h1 : (0 ≤ k ∧ k < (E : Int)) → ¬ (a = 0 ∨ a = 1) → Q (-1000000002) 303 (PP w) M) : OkI yX10_worthIt cX10_worthIt 7 2 0 0 (some .int) [vR 279, vI k, vI a] 303 (PP w) M Q := by
  refine OkI.of (by decide +kernel) (by decide +kernel) (Nat.le_of_ble_eq_true rfl) ?_
  refine go_eq (lv' := [(0, vR 279), (1, vI k), (2, vI a)]) rfl rfl rfl rfl rfl ?_
  refine go_aload_n 0 dX10_worthIt_0 rfl rfl ?_
  refine go_iload_n 1 dX10_worthIt_1 rfl rfl ?_
  refine go_callVI (av := [vI k]) (st := []) (a := 279) (mc2 := 0) (ms2 := 0) dX10_worthIt_2 cw10_230 (by decide) rfl rfl (Nat.le_of_ble_eq_true rfl) rfl rfl kd_279 ⟨_, _, rfl⟩ (by decide) (by omega) (ok_X10_isExecutor hE (fun q1 q2 => ?_) (fun q => ?_))
  · skip
    refine go_if_ne (tgt := 11) dX10_worthIt_5 rfl (fun c1 => ?_) (fun c1 => ?_)
    · refine go_iload_n 2 dX10_worthIt_11 rfl rfl ?_
      refine go_i2l dX10_worthIt_12 ?_
      refine go_lconst (z := 0) dX10_worthIt_13 (by decide) (by decide) ?_
      refine go_lconst (z := 1) dX10_worthIt_14 (by decide) (by decide) ?_
      refine go_callSI (av := [vL a, vL 0, vL 1]) (st := []) (mc2 := 0) (ms2 := 0) dX10_worthIt_15 cw10_87 (by decide) rfl rfl (Nat.le_of_ble_eq_true rfl) rfl rfl (ok_X10_in (fun i2 i3 => ?_) (fun i4 => ?_))
      · skip
        refine go_if_ne (tgt := 24) dX10_worthIt_18 rfl (fun c5 => ?_) (fun c5 => ?_)
        · exfalso; omega
        · exact absurd c5 (by decide)
      · skip
        refine go_if_ne (tgt := 24) dX10_worthIt_18 rfl (fun c6 => ?_) (fun c6 => ?_)
        · exact absurd c6 (by decide)
        · refine go_ldc dX10_worthIt_21 ik10_96 (by decide) ?_
          refine go_iret dX10_worthIt_23 rfl rfl ⟨_, rfl, ?_⟩
          first | exact h0 (by omega) | exact h1 (by omega) (by omega)
    · exact absurd c1 (by decide)
  · skip
    refine go_if_ne (tgt := 11) dX10_worthIt_5 rfl (fun c7 => ?_) (fun c7 => ?_)
    · exact absurd c7 (by decide)
    · refine go_ldc dX10_worthIt_8 ik10_223 (by decide) ?_
      refine go_iret dX10_worthIt_10 rfl rfl ⟨_, rfl, ?_⟩
      first | exact h0 (by omega) | exact h1 (by omega) (by omega)

set_option maxHeartbeats 4000000 in
set_option maxRecDepth 100000 in
theorem lp_X10_stingFrom {w L f g : Nat} {M : inm} {Q : Int → Nat → rfm → inm → Prop} (hL : Lay10 M L) (hfg : f ≤ g ∧ g ≤ L) (hQ : Q ((sumTo (fun j => sting (M 284 (j + 1)) (M 284 (j + 13)))) g - (sumTo (fun j => sting (M 284 (j + 1)) (M 284 (j + 13)))) f) 303 (PP w) M) : ∀ (d k : Nat), g < k + d → f ≤ k → k ≤ g → Go S0 yX10_stingFrom cX10_stingFrom 5 2 0 0 (some .int) 5 [(4, vI ((k : Nat) : Int)), (3, vI ((sumTo (fun j => sting (M 284 (j + 1)) (M 284 (j + 13)))) k - (sumTo (fun j => sting (M 284 (j + 1)) (M 284 (j + 13)))) f)), (0, vR 279), (1, vI ((f : Nat) : Int)), (2, vI ((g : Nat) : Int))] [] 303 (PP w) M (fun v n P M => ∃ z, v = some (vI z) ∧ Q z n P M) := by
  have hL12 := hL.2.1
  have hsf := sumTo_in (f := (fun j => sting (M 284 (j + 1)) (M 284 (j + 13)))) (b := 40) f (fun i hi => by have h9 := hL.2.2.1 i (by omega); have h8 := sting_in (c := M 284 (i + 1)) h9.1; exact ⟨h8.1, Int.le_trans h8.2 (by have : M 284 (i + 13) ≤ 20 := h9.2; show 2 * M 284 (i + 13) ≤ 40; omega)⟩)
  intro d
  induction d with
  | zero => intro k h1 h2 h3; exfalso; omega
  | succ d ih =>
    intro k h1 h2 h3
    have hsk := sumTo_in (f := (fun j => sting (M 284 (j + 1)) (M 284 (j + 13)))) (b := 40) k (fun i hi => by have h9 := hL.2.2.1 i (by omega); have h8 := sting_in (c := M 284 (i + 1)) h9.1; exact ⟨h8.1, Int.le_trans h8.2 (by have : M 284 (i + 13) ≤ 20 := h9.2; show 2 * M 284 (i + 13) ≤ 40; omega)⟩)
    refine go_iload 0 dX10_stingFrom_5 rfl ?_
    refine go_iload_n 4 dX10_stingFrom_7 rfl rfl ?_
    refine go_icmp_ge (tgt := 26) dX10_stingFrom_8 rfl (fun c1 => ?_) (fun c1 => ?_)
    · refine go_iload_n 1 dX10_stingFrom_26 rfl rfl ?_
      refine go_iret dX10_stingFrom_27 rfl rfl ⟨_, rfl, ?_⟩
      rw [show k = g by omega]
      exact hQ
    · refine go_iload_n 1 dX10_stingFrom_11 rfl rfl ?_
      refine go_aload_n 2 dX10_stingFrom_12 rfl rfl ?_
      refine go_iload 0 dX10_stingFrom_13 rfl ?_
      refine go_callVI (av := [vI ((k : Nat) : Int)]) (st := [vI ((sumTo (fun j => sting (M 284 (j + 1)) (M 284 (j + 13)))) k - (sumTo (fun j => sting (M 284 (j + 1)) (M 284 (j + 13)))) f)]) (a := 279) (mc2 := 0) (ms2 := 0) dX10_stingFrom_15 cw10_227 (by decide) rfl rfl (Nat.le_of_ble_eq_true rfl) rfl rfl kd_279 ⟨_, _, rfl⟩ (by decide) (by omega) (ok_X10_stingOf (k := k) (by omega) (hL.2.2.1 k (by omega)) ?_)
      have g2 := sting_in (c := M 284 (k + 1)) (hL.2.2.1 k (by omega)).1
      have g2b := hL.2.2.1 k (by omega)
      refine gx_iadd (v := (((sumTo (fun j => sting (M 284 (j + 1)) (M 284 (j + 13)))) k - (sumTo (fun j => sting (M 284 (j + 1)) (M 284 (j + 13)))) f) + (sting (M 284 (k + 1)) (M 284 (k + 13))))) dX10_stingFrom_18 rfl ⟨by omega, by omega⟩ ?_
      refine go_istore_n (lv' := [(3, vI (((sumTo (fun j => sting (M 284 (j + 1)) (M 284 (j + 13)))) k - (sumTo (fun j => sting (M 284 (j + 1)) (M 284 (j + 13)))) f) + (sting (M 284 (k + 1)) (M 284 (k + 13))))), (4, vI ((k : Nat) : Int)), (0, vR 279), (1, vI ((f : Nat) : Int)), (2, vI ((g : Nat) : Int))]) dX10_stingFrom_19 rfl (by decide) rfl ?_
      refine gx_iinc (v := ((k + 1 : Nat) : Int)) (lv' := [(4, vI ((k + 1 : Nat) : Int)), (3, vI (((sumTo (fun j => sting (M 284 (j + 1)) (M 284 (j + 13)))) k - (sumTo (fun j => sting (M 284 (j + 1)) (M 284 (j + 13)))) f) + (sting (M 284 (k + 1)) (M 284 (k + 13))))), (0, vR 279), (1, vI ((f : Nat) : Int)), (2, vI ((g : Nat) : Int))]) 1 dX10_stingFrom_20 rfl (by omega) ⟨by omega, by omega⟩ (by decide) rfl ?_
      refine go_goto (tgt := 5) dX10_stingFrom_23 rfl ?_
      have e3 : (((sumTo (fun j => sting (M 284 (j + 1)) (M 284 (j + 13)))) k - (sumTo (fun j => sting (M 284 (j + 1)) (M 284 (j + 13)))) f) + (sting (M 284 (k + 1)) (M 284 (k + 13)))) = ((sumTo (fun j => sting (M 284 (j + 1)) (M 284 (j + 13)))) (k + 1) - (sumTo (fun j => sting (M 284 (j + 1)) (M 284 (j + 13)))) f) := by (rw [sumTo_s]; omega)
      rw [e3]
      exact ih (k + 1) (by omega) (by omega) (by omega)

set_option maxHeartbeats 4000000 in
set_option maxRecDepth 100000 in
theorem ok_X10_stingFrom {w L f g : Nat} {M : inm} {Q : Int → Nat → rfm → inm → Prop} (hL : Lay10 M L) (hfg : f ≤ g ∧ g ≤ L) (hQ : Q ((sumTo (fun j => sting (M 284 (j + 1)) (M 284 (j + 13)))) g - (sumTo (fun j => sting (M 284 (j + 1)) (M 284 (j + 13)))) f) 303 (PP w) M) : OkI yX10_stingFrom cX10_stingFrom 5 2 0 0 (some .int) [vR 279, vI ((f : Nat) : Int), vI ((g : Nat) : Int)] 303 (PP w) M Q := by
  refine OkI.of (by decide +kernel) (by decide +kernel) (Nat.le_of_ble_eq_true rfl) ?_
  refine go_eq (lv' := [(0, vR 279), (1, vI ((f : Nat) : Int)), (2, vI ((g : Nat) : Int))]) rfl rfl rfl rfl rfl ?_
  refine go_iconst dX10_stingFrom_0 (by decide) ?_
  refine go_istore_n (lv' := [(3, vI 0), (0, vR 279), (1, vI ((f : Nat) : Int)), (2, vI ((g : Nat) : Int))]) dX10_stingFrom_1 rfl (by decide) rfl ?_
  refine go_iload_n 2 dX10_stingFrom_2 rfl rfl ?_
  refine go_istore (lv' := [(4, vI ((f : Nat) : Int)), (3, vI 0), (0, vR 279), (1, vI ((f : Nat) : Int)), (2, vI ((g : Nat) : Int))]) dX10_stingFrom_3 (by decide) rfl ?_
  refine go_eq (lv' := [(4, vI ((f : Nat) : Int)), (3, vI ((sumTo (fun j => sting (M 284 (j + 1)) (M 284 (j + 13)))) f - (sumTo (fun j => sting (M 284 (j + 1)) (M 284 (j + 13)))) f)), (0, vR 279), (1, vI ((f : Nat) : Int)), (2, vI ((g : Nat) : Int))]) (by rw [Int.sub_self]) rfl rfl rfl rfl ?_
  exact lp_X10_stingFrom hL hfg hQ (g + 1) f (by omega) (by omega) (by omega)

set_option maxHeartbeats 4000000 in
set_option maxRecDepth 100000 in
theorem lp_X10_twoSides {w L : Nat} {a : Int} {M : inm} {Q : Int → Nat → rfm → inm → Prop} (hL : Lay10 M L) (ha : 0 ≤ a ∧ a ≤ 2) (hQ : Q (sel [(sumTo (fun j => worth (M 284 (j + 1)) (M 284 (j + 13)))) (L - L / 2) - (sumTo (fun j => worth (M 284 (j + 1)) (M 284 (j + 13)))) 0, (sumTo (fun j => worth (M 284 (j + 1)) (M 284 (j + 13)))) L - (sumTo (fun j => worth (M 284 (j + 1)) (M 284 (j + 13)))) (L - L / 2), if L = 0 then -1 else ((L / 2 : Nat) : Int)] a (-1000000002)) 303 (PP w) M) : ∀ d q, L < 2 * q + 2 * d → 2 * q ≤ L → Go S0 yX10_twoSides cX10_twoSides 8 2 0 0 (some .int) 38 [(7, vI 1), (6, vI ((L : Int) - 1 - (((q) : Nat) : Int))), (5, vI ((q : Nat) : Int)), (4, vI (if q = 0 then (-1 : Int) else ((L - q : Nat) : Int))), (3, vI ((sumTo (fun j => worth (M 284 (j + 1)) (M 284 (j + 13)))) L - (sumTo (fun j => worth (M 284 (j + 1)) (M 284 (j + 13)))) (L - q))), (2, vI ((sumTo (fun j => worth (M 284 (j + 1)) (M 284 (j + 13)))) q)), (0, vR 279), (1, vI a)] [] 303 (PP w) M (fun v n P M => ∃ z, v = some (vI z) ∧ Q z n P M) := by
  have hL12 := hL.2.1
  intro d
  induction d with
  | zero => intro q h1 h2; exfalso; omega
  | succ d ih =>
    intro q h1 h2
    have hs1 := sumTo_in (f := (fun j => worth (M 284 (j + 1)) (M 284 (j + 13)))) (b := 40) q (fun i hi => by have h9 := hL.2.2.1 i (by omega); have h8 := worth_in (c := M 284 (i + 1)) h9.1; exact ⟨h8.1, Int.le_trans h8.2 (by have : M 284 (i + 13) ≤ 20 := h9.2; show 2 * M 284 (i + 13) ≤ 40; omega)⟩)
    have hs2 := sumTo_in (f := (fun j => worth (M 284 (j + 1)) (M 284 (j + 13)))) (b := 40) L (fun i hi => by have h9 := hL.2.2.1 i (by omega); have h8 := worth_in (c := M 284 (i + 1)) h9.1; exact ⟨h8.1, Int.le_trans h8.2 (by have : M 284 (i + 13) ≤ 20 := h9.2; show 2 * M 284 (i + 13) ≤ 40; omega)⟩)
    have hs3 := sumTo_in (f := (fun j => worth (M 284 (j + 1)) (M 284 (j + 13)))) (b := 40) (L - q) (fun i hi => by have h9 := hL.2.2.1 i (by omega); have h8 := worth_in (c := M 284 (i + 1)) h9.1; exact ⟨h8.1, Int.le_trans h8.2 (by have : M 284 (i + 13) ≤ 20 := h9.2; show 2 * M 284 (i + 13) ≤ 40; omega)⟩)
    by_cases hlt : 2 * q < L
    · refine go_eq (lv' := [(7, vI 1), (6, vI ((L - 1 - q : Nat) : Int)), (5, vI ((q : Nat) : Int)), (4, vI (if q = 0 then (-1 : Int) else ((L - q : Nat) : Int))), (3, vI ((sumTo (fun j => worth (M 284 (j + 1)) (M 284 (j + 13)))) L - (sumTo (fun j => worth (M 284 (j + 1)) (M 284 (j + 13)))) (L - q))), (2, vI ((sumTo (fun j => worth (M 284 (j + 1)) (M 284 (j + 13)))) q)), (0, vR 279), (1, vI a)]) (by rw [show (L : Int) - 1 - ((q : Nat) : Int) = ((L - 1 - q : Nat) : Int) by omega]) rfl rfl rfl rfl ?_
      refine go_iload 2 dX10_twoSides_38 rfl ?_
      refine go_iload 1 dX10_twoSides_40 rfl ?_
      refine go_icmp_gt (tgt := 140) dX10_twoSides_42 rfl (fun c1 => ?_) (fun c1 => ?_)
      · exact absurd c1 (by omega)
      · refine go_iload 0 dX10_twoSides_45 rfl ?_
        refine go_if_eq (tgt := 55) dX10_twoSides_47 rfl (fun c2 => ?_) (fun c2 => ?_)
        · exact absurd c2 (by decide)
        · refine go_iload 2 dX10_twoSides_50 rfl ?_
          refine go_goto (tgt := 57) dX10_twoSides_52 rfl ?_
          refine go_istore (lv' := [(4, vI ((q : Nat) : Int)), (7, vI 1), (6, vI ((L - 1 - q : Nat) : Int)), (5, vI ((q : Nat) : Int)), (3, vI ((sumTo (fun j => worth (M 284 (j + 1)) (M 284 (j + 13)))) L - (sumTo (fun j => worth (M 284 (j + 1)) (M 284 (j + 13)))) (L - q))), (2, vI ((sumTo (fun j => worth (M 284 (j + 1)) (M 284 (j + 13)))) q)), (0, vR 279), (1, vI a)]) dX10_twoSides_57 (by decide) rfl ?_
          refine go_iload_n 5 dX10_twoSides_59 rfl rfl ?_
          refine go_iload 1 dX10_twoSides_60 rfl ?_
          refine go_if_eq (tgt := 74) dX10_twoSides_62 rfl (fun c3 => ?_) (fun c3 => ?_)
          · exact absurd c3 (by decide)
          · refine go_aload_n 6 dX10_twoSides_65 rfl rfl ?_
            refine go_iload 0 dX10_twoSides_66 rfl ?_
            refine go_callVI (av := [vI ((q : Nat) : Int)]) (st := [vI ((sumTo (fun j => worth (M 284 (j + 1)) (M 284 (j + 13)))) q)]) (a := 279) (mc2 := 0) (ms2 := 0) dX10_twoSides_68 cw10_224 (by decide) rfl rfl (Nat.le_of_ble_eq_true rfl) rfl rfl kd_279 ⟨_, _, rfl⟩ (by decide) (by omega) (ok_X10_worthOf (k := q) (by omega) (hL.2.2.1 q (by omega)) ?_)
            have g4 := worth_in (c := M 284 (q + 1)) (hL.2.2.1 q (by omega)).1
            have g4b := hL.2.2.1 q (by omega)
            refine go_goto (tgt := 75) dX10_twoSides_71 rfl ?_
            refine gx_iadd (v := (((sumTo (fun j => worth (M 284 (j + 1)) (M 284 (j + 13)))) q) + (worth (M 284 (q + 1)) (M 284 (q + 13))))) dX10_twoSides_75 rfl ⟨by omega, by omega⟩ ?_
            refine go_istore_n (lv' := [(2, vI (((sumTo (fun j => worth (M 284 (j + 1)) (M 284 (j + 13)))) q) + (worth (M 284 (q + 1)) (M 284 (q + 13))))), (4, vI ((q : Nat) : Int)), (7, vI 1), (6, vI ((L - 1 - q : Nat) : Int)), (5, vI ((q : Nat) : Int)), (3, vI ((sumTo (fun j => worth (M 284 (j + 1)) (M 284 (j + 13)))) L - (sumTo (fun j => worth (M 284 (j + 1)) (M 284 (j + 13)))) (L - q))), (0, vR 279), (1, vI a)]) dX10_twoSides_76 rfl (by decide) rfl ?_
            refine go_iload_n 5 dX10_twoSides_77 rfl rfl ?_
            refine go_iload 2 dX10_twoSides_78 rfl ?_
            refine go_if_eq (tgt := 87) dX10_twoSides_80 rfl (fun c5 => ?_) (fun c5 => ?_)
            · exact absurd c5 (by decide)
            · refine go_iconst dX10_twoSides_83 (by decide) ?_
              refine go_goto (tgt := 93) dX10_twoSides_84 rfl ?_
              refine gx_iadd (v := (((sumTo (fun j => worth (M 284 (j + 1)) (M 284 (j + 13)))) L - (sumTo (fun j => worth (M 284 (j + 1)) (M 284 (j + 13)))) (L - q)) + 0)) dX10_twoSides_93 rfl ⟨by omega, by omega⟩ ?_
              refine go_istore_n (lv' := [(3, vI (((sumTo (fun j => worth (M 284 (j + 1)) (M 284 (j + 13)))) L - (sumTo (fun j => worth (M 284 (j + 1)) (M 284 (j + 13)))) (L - q)) + 0)), (2, vI (((sumTo (fun j => worth (M 284 (j + 1)) (M 284 (j + 13)))) q) + (worth (M 284 (q + 1)) (M 284 (q + 13))))), (4, vI ((q : Nat) : Int)), (7, vI 1), (6, vI ((L - 1 - q : Nat) : Int)), (5, vI ((q : Nat) : Int)), (0, vR 279), (1, vI a)]) dX10_twoSides_94 rfl (by decide) rfl ?_
              refine go_iload 5 dX10_twoSides_95 rfl ?_
              refine go_iload 3 dX10_twoSides_97 rfl ?_
              refine go_if_eq (tgt := 106) dX10_twoSides_99 rfl (fun c6 => ?_) (fun c6 => ?_)
              · exact absurd c6 (by decide)
              · refine go_iconst dX10_twoSides_102 (by decide) ?_
                refine go_goto (tgt := 107) dX10_twoSides_103 rfl ?_
                refine gx_iadd (v := ((q + 1 : Nat) : Int)) dX10_twoSides_107 (by omega) ⟨by omega, by omega⟩ ?_
                refine go_istore (lv' := [(5, vI ((q + 1 : Nat) : Int)), (3, vI (((sumTo (fun j => worth (M 284 (j + 1)) (M 284 (j + 13)))) L - (sumTo (fun j => worth (M 284 (j + 1)) (M 284 (j + 13)))) (L - q)) + 0)), (2, vI (((sumTo (fun j => worth (M 284 (j + 1)) (M 284 (j + 13)))) q) + (worth (M 284 (q + 1)) (M 284 (q + 13))))), (4, vI ((q : Nat) : Int)), (7, vI 1), (6, vI ((L - 1 - q : Nat) : Int)), (0, vR 279), (1, vI a)]) dX10_twoSides_108 (by decide) rfl ?_
                refine go_iload 5 dX10_twoSides_110 rfl ?_
                refine go_iload 4 dX10_twoSides_112 rfl ?_
                refine go_if_eq (tgt := 121) dX10_twoSides_114 rfl (fun c7 => ?_) (fun c7 => ?_)
                · exact absurd c7 (by decide)
                · refine go_iconst dX10_twoSides_117 (by decide) ?_
                  refine go_goto (tgt := 122) dX10_twoSides_118 rfl ?_
                  refine gx_isub (v := ((L - 1 - q : Nat) : Int)) dX10_twoSides_122 (by omega) ⟨by omega, by omega⟩ ?_
                  refine go_istore (lv' := [(6, vI ((L - 1 - q : Nat) : Int)), (5, vI ((q + 1 : Nat) : Int)), (3, vI (((sumTo (fun j => worth (M 284 (j + 1)) (M 284 (j + 13)))) L - (sumTo (fun j => worth (M 284 (j + 1)) (M 284 (j + 13)))) (L - q)) + 0)), (2, vI (((sumTo (fun j => worth (M 284 (j + 1)) (M 284 (j + 13)))) q) + (worth (M 284 (q + 1)) (M 284 (q + 13))))), (4, vI ((q : Nat) : Int)), (7, vI 1), (0, vR 279), (1, vI a)]) dX10_twoSides_123 (by decide) rfl ?_
                  refine go_iload 5 dX10_twoSides_125 rfl ?_
                  refine go_if_ne (tgt := 134) dX10_twoSides_127 rfl (fun c8 => ?_) (fun c8 => ?_)
                  · refine go_iconst dX10_twoSides_134 (by decide) ?_
                    refine go_istore (lv' := [(7, vI 0), (6, vI ((L - 1 - q : Nat) : Int)), (5, vI ((q + 1 : Nat) : Int)), (3, vI (((sumTo (fun j => worth (M 284 (j + 1)) (M 284 (j + 13)))) L - (sumTo (fun j => worth (M 284 (j + 1)) (M 284 (j + 13)))) (L - q)) + 0)), (2, vI (((sumTo (fun j => worth (M 284 (j + 1)) (M 284 (j + 13)))) q) + (worth (M 284 (q + 1)) (M 284 (q + 13))))), (4, vI ((q : Nat) : Int)), (0, vR 279), (1, vI a)]) dX10_twoSides_135 (by decide) rfl ?_
                    refine go_goto (tgt := 38) dX10_twoSides_137 rfl ?_
                    refine go_iload 2 dX10_twoSides_38 rfl ?_
                    refine go_iload 1 dX10_twoSides_40 rfl ?_
                    refine go_icmp_gt (tgt := 140) dX10_twoSides_42 rfl (fun c9 => ?_) (fun c9 => ?_)
                    · refine go_iload_n 7 dX10_twoSides_140 rfl rfl ?_
                      refine go_if_ne (tgt := 148) dX10_twoSides_141 rfl (fun c10 => ?_) (fun c10 => ?_)
                      · refine go_iload_n 7 dX10_twoSides_148 rfl rfl ?_
                        refine go_iconst dX10_twoSides_149 (by decide) ?_
                        refine go_icmp_ne (tgt := 157) dX10_twoSides_150 rfl (fun c11 => ?_) (fun c11 => ?_)
                        · refine go_iload 5 dX10_twoSides_157 rfl ?_
                          refine go_iret dX10_twoSides_159 rfl rfl ⟨_, rfl, ?_⟩
                          rw [show L - L / 2 = q + 1 by omega] at hQ
                          have ez : sumTo (fun j => worth (M 284 (j + 1)) (M 284 (j + 13))) 0 = 0 := rfl
                          try rw [Int.add_zero]
                          first | (rw [sel_at 0 (by omega) rfl, ez, Int.sub_zero] at hQ; exact hQ) | (rw [sel_at 1 (by omega) rfl] at hQ; rw [show L - q = q + 1 by omega]; exact hQ) | (rw [sel_at 2 (by omega) rfl, if_neg (by omega), show L / 2 = q by omega] at hQ; exact hQ)
                        · refine go_iload_n 3 dX10_twoSides_153 rfl rfl ?_
                          refine go_goto (tgt := 159) dX10_twoSides_154 rfl ?_
                          refine go_iret dX10_twoSides_159 rfl rfl ⟨_, rfl, ?_⟩
                          rw [show L - L / 2 = q + 1 by omega] at hQ
                          have ez : sumTo (fun j => worth (M 284 (j + 1)) (M 284 (j + 13))) 0 = 0 := rfl
                          try rw [Int.add_zero]
                          first | (rw [sel_at 0 (by omega) rfl, ez, Int.sub_zero] at hQ; exact hQ) | (rw [sel_at 1 (by omega) rfl] at hQ; rw [show L - q = q + 1 by omega]; exact hQ) | (rw [sel_at 2 (by omega) rfl, if_neg (by omega), show L / 2 = q by omega] at hQ; exact hQ)
                      · refine go_iload_n 4 dX10_twoSides_144 rfl rfl ?_
                        refine go_goto (tgt := 159) dX10_twoSides_145 rfl ?_
                        refine go_iret dX10_twoSides_159 rfl rfl ⟨_, rfl, ?_⟩
                        rw [show L - L / 2 = q + 1 by omega] at hQ
                        have ez : sumTo (fun j => worth (M 284 (j + 1)) (M 284 (j + 13))) 0 = 0 := rfl
                        try rw [Int.add_zero]
                        first | (rw [sel_at 0 (by omega) rfl, ez, Int.sub_zero] at hQ; exact hQ) | (rw [sel_at 1 (by omega) rfl] at hQ; rw [show L - q = q + 1 by omega]; exact hQ) | (rw [sel_at 2 (by omega) rfl, if_neg (by omega), show L / 2 = q by omega] at hQ; exact hQ)
                    · refine go_iload 0 dX10_twoSides_45 rfl ?_
                      refine go_if_eq (tgt := 55) dX10_twoSides_47 rfl (fun c12 => ?_) (fun c12 => ?_)
                      · refine go_iload 1 dX10_twoSides_55 rfl ?_
                        refine go_istore (lv' := [(4, vI ((L - 1 - q : Nat) : Int)), (7, vI 0), (6, vI ((L - 1 - q : Nat) : Int)), (5, vI ((q + 1 : Nat) : Int)), (3, vI (((sumTo (fun j => worth (M 284 (j + 1)) (M 284 (j + 13)))) L - (sumTo (fun j => worth (M 284 (j + 1)) (M 284 (j + 13)))) (L - q)) + 0)), (2, vI (((sumTo (fun j => worth (M 284 (j + 1)) (M 284 (j + 13)))) q) + (worth (M 284 (q + 1)) (M 284 (q + 13))))), (0, vR 279), (1, vI a)]) dX10_twoSides_57 (by decide) rfl ?_
                        refine go_iload_n 5 dX10_twoSides_59 rfl rfl ?_
                        refine go_iload 1 dX10_twoSides_60 rfl ?_
                        refine go_if_eq (tgt := 74) dX10_twoSides_62 rfl (fun c13 => ?_) (fun c13 => ?_)
                        · refine go_iconst dX10_twoSides_74 (by decide) ?_
                          refine gx_iadd (v := ((((sumTo (fun j => worth (M 284 (j + 1)) (M 284 (j + 13)))) q) + (worth (M 284 (q + 1)) (M 284 (q + 13)))) + 0)) dX10_twoSides_75 rfl ⟨by omega, by omega⟩ ?_
                          refine go_istore_n (lv' := [(2, vI ((((sumTo (fun j => worth (M 284 (j + 1)) (M 284 (j + 13)))) q) + (worth (M 284 (q + 1)) (M 284 (q + 13)))) + 0)), (4, vI ((L - 1 - q : Nat) : Int)), (7, vI 0), (6, vI ((L - 1 - q : Nat) : Int)), (5, vI ((q + 1 : Nat) : Int)), (3, vI (((sumTo (fun j => worth (M 284 (j + 1)) (M 284 (j + 13)))) L - (sumTo (fun j => worth (M 284 (j + 1)) (M 284 (j + 13)))) (L - q)) + 0)), (0, vR 279), (1, vI a)]) dX10_twoSides_76 rfl (by decide) rfl ?_
                          refine go_iload_n 5 dX10_twoSides_77 rfl rfl ?_
                          refine go_iload 2 dX10_twoSides_78 rfl ?_
                          refine go_if_eq (tgt := 87) dX10_twoSides_80 rfl (fun c14 => ?_) (fun c14 => ?_)
                          · refine go_aload_n 6 dX10_twoSides_87 rfl rfl ?_
                            refine go_iload 1 dX10_twoSides_88 rfl ?_
                            refine go_callVI (av := [vI ((L - 1 - q : Nat) : Int)]) (st := [vI (((sumTo (fun j => worth (M 284 (j + 1)) (M 284 (j + 13)))) L - (sumTo (fun j => worth (M 284 (j + 1)) (M 284 (j + 13)))) (L - q)) + 0)]) (a := 279) (mc2 := 0) (ms2 := 0) dX10_twoSides_90 cw10_224 (by decide) rfl rfl (Nat.le_of_ble_eq_true rfl) rfl rfl kd_279 ⟨_, _, rfl⟩ (by decide) (by omega) (ok_X10_worthOf (k := L - 1 - q) (by omega) (hL.2.2.1 (L - 1 - q) (by omega)) ?_)
                            have g15 := worth_in (c := M 284 (L - 1 - q + 1)) (hL.2.2.1 (L - 1 - q) (by omega)).1
                            have g15b := hL.2.2.1 (L - 1 - q) (by omega)
                            refine gx_iadd (v := ((((sumTo (fun j => worth (M 284 (j + 1)) (M 284 (j + 13)))) L - (sumTo (fun j => worth (M 284 (j + 1)) (M 284 (j + 13)))) (L - q)) + 0) + (worth (M 284 (L - 1 - q + 1)) (M 284 (L - 1 - q + 13))))) dX10_twoSides_93 rfl ⟨by omega, by omega⟩ ?_
                            refine go_istore_n (lv' := [(3, vI ((((sumTo (fun j => worth (M 284 (j + 1)) (M 284 (j + 13)))) L - (sumTo (fun j => worth (M 284 (j + 1)) (M 284 (j + 13)))) (L - q)) + 0) + (worth (M 284 (L - 1 - q + 1)) (M 284 (L - 1 - q + 13))))), (2, vI ((((sumTo (fun j => worth (M 284 (j + 1)) (M 284 (j + 13)))) q) + (worth (M 284 (q + 1)) (M 284 (q + 13)))) + 0)), (4, vI ((L - 1 - q : Nat) : Int)), (7, vI 0), (6, vI ((L - 1 - q : Nat) : Int)), (5, vI ((q + 1 : Nat) : Int)), (0, vR 279), (1, vI a)]) dX10_twoSides_94 rfl (by decide) rfl ?_
                            refine go_iload 5 dX10_twoSides_95 rfl ?_
                            refine go_iload 3 dX10_twoSides_97 rfl ?_
                            refine go_if_eq (tgt := 106) dX10_twoSides_99 rfl (fun c16 => ?_) (fun c16 => ?_)
                            · refine go_iconst dX10_twoSides_106 (by decide) ?_
                              refine gx_iadd (v := ((q + 1 : Nat) : Int)) dX10_twoSides_107 (by omega) ⟨by omega, by omega⟩ ?_
                              refine go_istore (lv' := [(5, vI ((q + 1 : Nat) : Int)), (3, vI ((((sumTo (fun j => worth (M 284 (j + 1)) (M 284 (j + 13)))) L - (sumTo (fun j => worth (M 284 (j + 1)) (M 284 (j + 13)))) (L - q)) + 0) + (worth (M 284 (L - 1 - q + 1)) (M 284 (L - 1 - q + 13))))), (2, vI ((((sumTo (fun j => worth (M 284 (j + 1)) (M 284 (j + 13)))) q) + (worth (M 284 (q + 1)) (M 284 (q + 13)))) + 0)), (4, vI ((L - 1 - q : Nat) : Int)), (7, vI 0), (6, vI ((L - 1 - q : Nat) : Int)), (0, vR 279), (1, vI a)]) dX10_twoSides_108 (by decide) rfl ?_
                              refine go_iload 5 dX10_twoSides_110 rfl ?_
                              refine go_iload 4 dX10_twoSides_112 rfl ?_
                              refine go_if_eq (tgt := 121) dX10_twoSides_114 rfl (fun c17 => ?_) (fun c17 => ?_)
                              · refine go_iconst dX10_twoSides_121 (by decide) ?_
                                refine gx_isub (v := (((L - 1 - q : Nat) : Int) - 1)) dX10_twoSides_122 rfl ⟨by omega, by omega⟩ ?_
                                refine go_istore (lv' := [(6, vI (((L - 1 - q : Nat) : Int) - 1)), (5, vI ((q + 1 : Nat) : Int)), (3, vI ((((sumTo (fun j => worth (M 284 (j + 1)) (M 284 (j + 13)))) L - (sumTo (fun j => worth (M 284 (j + 1)) (M 284 (j + 13)))) (L - q)) + 0) + (worth (M 284 (L - 1 - q + 1)) (M 284 (L - 1 - q + 13))))), (2, vI ((((sumTo (fun j => worth (M 284 (j + 1)) (M 284 (j + 13)))) q) + (worth (M 284 (q + 1)) (M 284 (q + 13)))) + 0)), (4, vI ((L - 1 - q : Nat) : Int)), (7, vI 0), (0, vR 279), (1, vI a)]) dX10_twoSides_123 (by decide) rfl ?_
                                refine go_iload 5 dX10_twoSides_125 rfl ?_
                                refine go_if_ne (tgt := 134) dX10_twoSides_127 rfl (fun c18 => ?_) (fun c18 => ?_)
                                · exact absurd c18 (by decide)
                                · refine go_iconst dX10_twoSides_130 (by decide) ?_
                                  refine go_goto (tgt := 135) dX10_twoSides_131 rfl ?_
                                  refine go_istore (lv' := [(7, vI 1), (6, vI (((L - 1 - q : Nat) : Int) - 1)), (5, vI ((q + 1 : Nat) : Int)), (3, vI ((((sumTo (fun j => worth (M 284 (j + 1)) (M 284 (j + 13)))) L - (sumTo (fun j => worth (M 284 (j + 1)) (M 284 (j + 13)))) (L - q)) + 0) + (worth (M 284 (L - 1 - q + 1)) (M 284 (L - 1 - q + 13))))), (2, vI ((((sumTo (fun j => worth (M 284 (j + 1)) (M 284 (j + 13)))) q) + (worth (M 284 (q + 1)) (M 284 (q + 13)))) + 0)), (4, vI ((L - 1 - q : Nat) : Int)), (0, vR 279), (1, vI a)]) dX10_twoSides_135 (by decide) rfl ?_
                                  refine go_goto (tgt := 38) dX10_twoSides_137 rfl ?_
                                  refine go_lv [0, 1, 2, 5, 3, 4, 6, 7] rfl ?_
                                  have e6 : (((L - 1 - q : Nat) : Int) - 1) = ((L : Int) - 1 - (((q + 1) : Nat) : Int)) := by omega
                                  have e3 : ((((sumTo (fun j => worth (M 284 (j + 1)) (M 284 (j + 13)))) L - (sumTo (fun j => worth (M 284 (j + 1)) (M 284 (j + 13)))) (L - q)) + 0) + (worth (M 284 (L - 1 - q + 1)) (M 284 (L - 1 - q + 13)))) = ((sumTo (fun j => worth (M 284 (j + 1)) (M 284 (j + 13)))) L - (sumTo (fun j => worth (M 284 (j + 1)) (M 284 (j + 13)))) (L - (q + 1))) := by rw [show L - (q + 1) = L - 1 - q by omega, show L - q = L - 1 - q + 1 by omega, sumTo_s]; omega
                                  have e2 : ((((sumTo (fun j => worth (M 284 (j + 1)) (M 284 (j + 13)))) q) + (worth (M 284 (q + 1)) (M 284 (q + 13)))) + 0) = (sumTo (fun j => worth (M 284 (j + 1)) (M 284 (j + 13)))) (q + 1) := by rw [sumTo_s]; omega
                                  have e4 : ((L - 1 - q : Nat) : Int) = (if (q + 1) = 0 then (-1 : Int) else ((L - (q + 1) : Nat) : Int)) := by rw [if_neg (by omega)]; omega
                                  refine go_eq (lv' := [(7, vI 1), (6, vI ((L : Int) - 1 - ((((q + 1)) : Nat) : Int))), (5, vI (((q + 1) : Nat) : Int)), (4, vI (if (q + 1) = 0 then (-1 : Int) else ((L - (q + 1) : Nat) : Int))), (3, vI ((sumTo (fun j => worth (M 284 (j + 1)) (M 284 (j + 13)))) L - (sumTo (fun j => worth (M 284 (j + 1)) (M 284 (j + 13)))) (L - (q + 1)))), (2, vI ((sumTo (fun j => worth (M 284 (j + 1)) (M 284 (j + 13)))) (q + 1))), (0, vR 279), (1, vI a)]) (by rw [← e6, ← e3, ← e2, ← e4]; rfl) rfl rfl rfl rfl ?_
                                  exact ih (q + 1) (by omega) (by omega)
                              · exact absurd c17 (by decide)
                            · exact absurd c16 (by decide)
                          · exact absurd c14 (by decide)
                        · exact absurd c13 (by decide)
                      · exact absurd c12 (by decide)
                  · exact absurd c8 (by decide)
    · refine go_iload 2 dX10_twoSides_38 rfl ?_
      refine go_iload 1 dX10_twoSides_40 rfl ?_
      refine go_icmp_gt (tgt := 140) dX10_twoSides_42 rfl (fun c1 => ?_) (fun c1 => ?_)
      · refine go_iload_n 7 dX10_twoSides_140 rfl rfl ?_
        refine go_if_ne (tgt := 148) dX10_twoSides_141 rfl (fun c2 => ?_) (fun c2 => ?_)
        · refine go_iload_n 7 dX10_twoSides_148 rfl rfl ?_
          refine go_iconst dX10_twoSides_149 (by decide) ?_
          refine go_icmp_ne (tgt := 157) dX10_twoSides_150 rfl (fun c3 => ?_) (fun c3 => ?_)
          · refine go_iload 3 dX10_twoSides_157 rfl ?_
            refine go_iret dX10_twoSides_159 rfl rfl ⟨_, rfl, ?_⟩
            rw [show L - L / 2 = q by omega] at hQ
            have ez : sumTo (fun j => worth (M 284 (j + 1)) (M 284 (j + 13))) 0 = 0 := rfl
            first | (rw [sel_at 0 (by omega) rfl, ez, Int.sub_zero] at hQ; exact hQ) | (rw [sel_at 1 (by omega) rfl] at hQ; rw [show L - q = q by omega]; exact hQ) | (rw [sel_at 2 (by omega) rfl] at hQ; rw [show (if q = 0 then (-1 : Int) else ((L - q : Nat) : Int)) = (if L = 0 then -1 else ((L / 2 : Nat) : Int)) by split <;> (split <;> omega)]; exact hQ)
          · refine go_iload_n 4 dX10_twoSides_153 rfl rfl ?_
            refine go_goto (tgt := 159) dX10_twoSides_154 rfl ?_
            refine go_iret dX10_twoSides_159 rfl rfl ⟨_, rfl, ?_⟩
            rw [show L - L / 2 = q by omega] at hQ
            have ez : sumTo (fun j => worth (M 284 (j + 1)) (M 284 (j + 13))) 0 = 0 := rfl
            first | (rw [sel_at 0 (by omega) rfl, ez, Int.sub_zero] at hQ; exact hQ) | (rw [sel_at 1 (by omega) rfl] at hQ; rw [show L - q = q by omega]; exact hQ) | (rw [sel_at 2 (by omega) rfl] at hQ; rw [show (if q = 0 then (-1 : Int) else ((L - q : Nat) : Int)) = (if L = 0 then -1 else ((L / 2 : Nat) : Int)) by split <;> (split <;> omega)]; exact hQ)
        · refine go_iload_n 5 dX10_twoSides_144 rfl rfl ?_
          refine go_goto (tgt := 159) dX10_twoSides_145 rfl ?_
          refine go_iret dX10_twoSides_159 rfl rfl ⟨_, rfl, ?_⟩
          rw [show L - L / 2 = q by omega] at hQ
          have ez : sumTo (fun j => worth (M 284 (j + 1)) (M 284 (j + 13))) 0 = 0 := rfl
          first | (rw [sel_at 0 (by omega) rfl, ez, Int.sub_zero] at hQ; exact hQ) | (rw [sel_at 1 (by omega) rfl] at hQ; rw [show L - q = q by omega]; exact hQ) | (rw [sel_at 2 (by omega) rfl] at hQ; rw [show (if q = 0 then (-1 : Int) else ((L - q : Nat) : Int)) = (if L = 0 then -1 else ((L / 2 : Nat) : Int)) by split <;> (split <;> omega)]; exact hQ)
      · exact absurd c1 (by omega)

set_option maxHeartbeats 4000000 in
set_option maxRecDepth 100000 in
theorem ok_X10_twoSides_in {w L : Nat} {a : Int} {M : inm} {Q : Int → Nat → rfm → inm → Prop} (hL : Lay10 M L) (ha : 0 ≤ a ∧ a ≤ 2) (hQ : Q (sel [(sumTo (fun j => worth (M 284 (j + 1)) (M 284 (j + 13)))) (L - L / 2) - (sumTo (fun j => worth (M 284 (j + 1)) (M 284 (j + 13)))) 0, (sumTo (fun j => worth (M 284 (j + 1)) (M 284 (j + 13)))) L - (sumTo (fun j => worth (M 284 (j + 1)) (M 284 (j + 13)))) (L - L / 2), if L = 0 then -1 else ((L / 2 : Nat) : Int)] a (-1000000002)) 303 (PP w) M) : OkI yX10_twoSides cX10_twoSides 8 2 0 0 (some .int) [vR 279, vI a] 303 (PP w) M Q := by
  refine OkI.of (by decide +kernel) (by decide +kernel) (Nat.le_of_ble_eq_true rfl) ?_
  refine go_eq (lv' := [(0, vR 279), (1, vI a)]) rfl rfl rfl rfl rfl ?_
  have hL12 := hL.2.1
  refine go_iload_n 1 dX10_twoSides_0 rfl rfl ?_
  refine go_i2l dX10_twoSides_1 ?_
  refine go_lconst (z := 0) dX10_twoSides_2 (by decide) (by decide) ?_
  refine go_ldc2 dX10_twoSides_3 jk10_287 (by decide) ?_
  refine go_callSI (av := [vL a, vL 0, vL 2]) (st := []) (mc2 := 0) (ms2 := 0) dX10_twoSides_6 cw10_87 (by decide) rfl rfl (Nat.le_of_ble_eq_true rfl) rfl rfl (ok_X10_in (fun _ _ => ?_) (fun h => absurd ⟨by omega, by omega⟩ h))
  refine go_if_ne (tgt := 15) dX10_twoSides_9 rfl (fun c1 => ?_) (fun c1 => ?_)
  · refine go_iconst dX10_twoSides_15 (by decide) ?_
    refine go_istore_n (lv' := [(2, vI 0), (0, vR 279), (1, vI a)]) dX10_twoSides_16 rfl (by decide) rfl ?_
    refine go_iconst dX10_twoSides_17 (by decide) ?_
    refine go_istore_n (lv' := [(3, vI 0), (2, vI 0), (0, vR 279), (1, vI a)]) dX10_twoSides_18 rfl (by decide) rfl ?_
    refine go_iconst dX10_twoSides_19 (by decide) ?_
    refine go_istore (lv' := [(4, vI (-1)), (3, vI 0), (2, vI 0), (0, vR 279), (1, vI a)]) dX10_twoSides_20 (by decide) rfl ?_
    refine go_iconst dX10_twoSides_22 (by decide) ?_
    refine go_istore (lv' := [(5, vI 0), (4, vI (-1)), (3, vI 0), (2, vI 0), (0, vR 279), (1, vI a)]) dX10_twoSides_23 (by decide) rfl ?_
    refine go_aload_n 4 dX10_twoSides_25 rfl rfl ?_
    refine go_getR (r := 284) dX10_twoSides_26 lk10_22.get kd_279 (by omega) rfl (pp_279_8 w) ?_
    refine go_iconst dX10_twoSides_29 (by decide) ?_
    refine gx_iaload (v := ((L : Nat) : Int)) 0 dX10_twoSides_30 kd_284 (by omega) ln_284 (by omega) (by omega) hL.1 ?_
    refine go_iconst dX10_twoSides_31 (by decide) ?_
    refine gx_isub (v := (((L : Nat) : Int) - 1)) dX10_twoSides_32 rfl ⟨by omega, by omega⟩ ?_
    refine go_istore (lv' := [(6, vI (((L : Nat) : Int) - 1)), (5, vI 0), (4, vI (-1)), (3, vI 0), (2, vI 0), (0, vR 279), (1, vI a)]) dX10_twoSides_33 (by decide) rfl ?_
    refine go_iconst dX10_twoSides_35 (by decide) ?_
    refine go_istore (lv' := [(7, vI 1), (6, vI (((L : Nat) : Int) - 1)), (5, vI 0), (4, vI (-1)), (3, vI 0), (2, vI 0), (0, vR 279), (1, vI a)]) dX10_twoSides_36 (by decide) rfl ?_
    refine go_lv [0, 1, 2, 3, 4, 5, 6, 7] rfl ?_
    refine go_eq (lv' := [(7, vI 1), (6, vI ((L : Int) - 1 - (((0) : Nat) : Int))), (5, vI 0), (4, vI (if 0 = 0 then (-1 : Int) else ((L - 0 : Nat) : Int))), (3, vI ((sumTo (fun j => worth (M 284 (j + 1)) (M 284 (j + 13)))) L - (sumTo (fun j => worth (M 284 (j + 1)) (M 284 (j + 13)))) (L - 0))), (2, vI ((sumTo (fun j => worth (M 284 (j + 1)) (M 284 (j + 13)))) 0)), (0, vR 279), (1, vI a)]) (by rw [Nat.sub_zero, Int.sub_self, show (L : Int) - 1 - ((0 : Nat) : Int) = (L : Int) - 1 by omega]; rfl) rfl rfl rfl rfl ?_
    exact lp_X10_twoSides hL ha hQ (L + 1) 0 (by omega) (by omega)
  · exact absurd c1 (by decide)

set_option maxHeartbeats 4000000 in
set_option maxRecDepth 100000 in
theorem ok_X10_twoSides_out {w : Nat} {a : Int} {M : inm} {Q : Int → Nat → rfm → inm → Prop} (ha : ¬ (0 ≤ a ∧ a ≤ 2)) (hQ : Q (-1000000002) 303 (PP w) M) : OkI yX10_twoSides cX10_twoSides 8 2 0 0 (some .int) [vR 279, vI a] 303 (PP w) M Q := by
  refine OkI.of (by decide +kernel) (by decide +kernel) (Nat.le_of_ble_eq_true rfl) ?_
  refine go_eq (lv' := [(0, vR 279), (1, vI a)]) rfl rfl rfl rfl rfl ?_
  refine go_iload_n 1 dX10_twoSides_0 rfl rfl ?_
  refine go_i2l dX10_twoSides_1 ?_
  refine go_lconst (z := 0) dX10_twoSides_2 (by decide) (by decide) ?_
  refine go_ldc2 dX10_twoSides_3 jk10_287 (by decide) ?_
  refine go_callSI (av := [vL a, vL 0, vL 2]) (st := []) (mc2 := 0) (ms2 := 0) dX10_twoSides_6 cw10_87 (by decide) rfl rfl (Nat.le_of_ble_eq_true rfl) rfl rfl (ok_X10_in (fun a1 a2 => absurd (And.intro a1 a2) (by omega)) (fun _ => ?_))
  refine go_if_ne (tgt := 15) dX10_twoSides_9 rfl (fun c1 => ?_) (fun c1 => ?_)
  · exact absurd c1 (by decide)
  · refine go_ldc dX10_twoSides_12 ik10_96 (by decide) ?_
    refine go_iret dX10_twoSides_14 rfl rfl ⟨_, rfl, ?_⟩
    exact hQ

