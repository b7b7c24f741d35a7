/-! ===== OnionProbate: drift ===== -/
def mDraw (M : inm) (w E : Nat) : inm := if ((drawC (M 278 0)) / 65536 % 6) < 2 then (if 0 < M 30 0 ∧ M 30 9 = 0 then mTake (up2 (up2 M 278 0 (drawC (M 278 0))) 278 0 (drawC (drawC (M 278 0)))) 30 ((drawC (drawC (M 278 0))) / 65536 % (E : Int)).toNat (M (w + 3) ((drawC (drawC (M 278 0))) / 65536 % (E : Int)).toNat) else (up2 (up2 M 278 0 (drawC (M 278 0))) 278 0 (drawC (drawC (M 278 0))))) else if ((drawC (M 278 0)) / 65536 % 6) = 2 then (if 0 < M 30 0 then mThick (up2 M 278 0 (drawC (M 278 0))) 30 else (up2 M 278 0 (drawC (M 278 0)))) else if ((drawC (M 278 0)) / 65536 % 6) = 3 then up2 (up2 M 278 0 (drawC (M 278 0))) 30 9 (if M 30 9 = 0 then 1 else 0) else (up2 M 278 0 (drawC (M 278 0)))
set_option maxHeartbeats 4000000 in
set_option maxRecDepth 100000 in
theorem ok_X9_doByDraw {w E L U : Nat} {M : inm} {Q : Nat → rfm → inm → Prop} (hw : Cs w) (hE : M w 3 = (E : Int) ∧ 1 ≤ E ∧ E ≤ 5) (hL : Lay M 30 L) (hB : Bd M 30 U) (hca : ∀ e, e < E → 0 ≤ M (w + 3) e ∧ M (w + 3) e ≤ 9) (hQ : Q 303 (PP w) (mDraw M w E)) : OkV yX9_doByDraw cX9_doByDraw 2 3 0 0 [vR 0] 303 (PP w) M Q := by
  refine OkV.of (by decide +kernel) (by decide +kernel) (Nat.le_of_ble_eq_true rfl) ?_
  refine go_eq (lv' := [(0, vR 0)]) rfl rfl rfl rfl rfl ?_
  have hw30 := kdw hw
  have hL0 := hL.1
  have hd1 := drawC_in (M 278 0)
  have hd2 := drawC_in (drawC (M 278 0))
  have hm1 := Int.emod_nonneg ((drawC (M 278 0)) / 65536) (show (6 : Int) ≠ 0 by decide)
  have hm2 := Int.emod_nonneg ((drawC (drawC (M 278 0))) / 65536) (show (E : Int) ≠ 0 by omega)
  have hm3 := Int.emod_lt_of_pos ((drawC (drawC (M 278 0))) / 65536) (show (0 : Int) < (E : Int) by omega)
  refine go_aload_n 0 dX9_doByDraw_0 rfl rfl ?_
  refine go_getR (r := 278) dX9_doByDraw_1 lk9_71.get kd_0 (by omega) rfl (pp_0_9 w) ?_
  refine go_bipush dX9_doByDraw_4 (by decide) (by decide) ?_
  refine go_callVI (av := [vI 6]) (st := []) (a := 278) (mc2 := 0) (ms2 := 0) dX9_doByDraw_6 cw9_306 (by decide) rfl rfl (Nat.le_of_ble_eq_true rfl) rfl rfl kd_278 ⟨_, _, rfl⟩ (by decide) (by omega) (ok_X3_below (M := M) (fun _ => ?_) (fun q => absurd q (by omega)))
  by_cases s1 : (drawC (M 278 0) / 65536 % 6) = 0
  · refine go_tblIn (tgt := 40) dX9_doByDraw_9 (by omega) (by omega) (by rw [s1]; rfl) rfl ?_
    refine go_aload_n 0 dX9_doByDraw_40 rfl rfl ?_
    refine go_getR (r := 278) dX9_doByDraw_41 lk9_71.get kd_0 (by omega) rfl (pp_0_9 w) ?_
    refine go_aload_n 0 dX9_doByDraw_44 rfl rfl ?_
    refine go_getR (r := w) dX9_doByDraw_45 lk9_19.get kd_0 (by omega) rfl (pp_0_1 w) ?_
    refine gx_getI (v := ((E : Nat) : Int)) dX9_doByDraw_48 lk9_111.get hw.k0 hw.l0 rfl ((up2_ne (by omega)).trans hE.1) ?_
    refine go_callVI (av := [vI ((E : Nat) : Int)]) (st := []) (a := 278) (mc2 := 0) (ms2 := 0) dX9_doByDraw_51 cw9_306 (by decide) rfl rfl (Nat.le_of_ble_eq_true rfl) rfl rfl kd_278 ⟨_, _, rfl⟩ (by decide) (by omega) (ok_X3_below (M := (up2 M 278 0 (drawC (M 278 0)))) (fun _ => ?_) (fun q => absurd q (by omega)))
    rw [show (up2 M 278 0 (drawC (M 278 0))) 278 0 = (drawC (M 278 0)) from up2_same]
    refine go_istore_n (lv' := [(1, vI (drawC (drawC (M 278 0)) / 65536 % ((E : Nat) : Int))), (0, vR 0)]) dX9_doByDraw_54 rfl (by decide) rfl ?_
    refine go_lv [0, 1] rfl ?_
    refine go_eq (lv' := [(1, vI ((((drawC (drawC (M 278 0))) / 65536 % (E : Int)).toNat : Nat) : Int)), (0, vR 0)]) (by rw [show ((((drawC (drawC (M 278 0))) / 65536 % (E : Int)).toNat : Nat) : Int) = (drawC (drawC (M 278 0))) / 65536 % (E : Int) by omega]; rfl) rfl rfl rfl rfl ?_
    refine go_aload_n 1 dX9_doByDraw_55 rfl rfl ?_
    refine go_getR (r := 30) dX9_doByDraw_56 lk9_29.get kd_0 (by omega) rfl (pp_0_3 w) ?_
    refine go_callVI (av := []) (st := []) (a := 30) (mc2 := 0) (ms2 := 0) dX9_doByDraw_59 cw9_207 (by decide) rfl rfl (Nat.le_of_ble_eq_true rfl) rfl rfl kd_30 ⟨_, _, rfl⟩ (by decide) (by omega) (ok_X6_canBePeeled (M := (up2 (up2 M 278 0 (drawC (M 278 0))) 278 0 (drawC (drawC (M 278 0))))) On_30 (fun q1 q2 => ?_) (fun q => ?_))
    · rw [up2_ne (by omega), up2_ne (by omega)] at q1 q2
      refine go_if_eq (tgt := 142) dX9_doByDraw_62 rfl (fun c52 => ?_) (fun c52 => ?_)
      · exact absurd c52 (by omega)
      · refine go_aload_n 1 dX9_doByDraw_65 rfl rfl ?_
        refine go_getR (r := w) dX9_doByDraw_66 lk9_19.get kd_0 (by omega) rfl (pp_0_1 w) ?_
        refine go_iload_n 0 dX9_doByDraw_69 rfl rfl ?_
        refine go_callVI (av := [vI ((((drawC (drawC (M 278 0))) / 65536 % (E : Int)).toNat : Nat) : Int)]) (st := []) (a := w) (mc2 := 0) (ms2 := 0) dX9_doByDraw_70 cw9_185 (by decide) rfl rfl (Nat.le_of_ble_eq_true rfl) rfl rfl hw.k0 ⟨_, _, rfl⟩ (by decide) hw.l0 (ok_X1_hasExecutor (M := (up2 (up2 M 278 0 (drawC (M 278 0))) 278 0 (drawC (drawC (M 278 0))))) hw (fun _ _ => ?_) (fun h => absurd ⟨by omega, by rw [up2_ne (by omega), up2_ne (by omega), hE.1]; omega⟩ h))
        refine go_if_eq (tgt := 142) dX9_doByDraw_73 rfl (fun c53 => ?_) (fun c53 => ?_)
        · exact absurd c53 (by omega)
        · refine go_aload_n 1 dX9_doByDraw_76 rfl rfl ?_
          refine go_getR (r := 30) dX9_doByDraw_77 lk9_29.get kd_0 (by omega) rfl (pp_0_3 w) ?_
          refine go_iload_n 0 dX9_doByDraw_80 rfl rfl ?_
          refine go_aload_n 1 dX9_doByDraw_81 rfl rfl ?_
          refine go_getR (r := w) dX9_doByDraw_82 lk9_19.get kd_0 (by omega) rfl (pp_0_1 w) ?_
          refine go_getR (r := (w + 3)) dX9_doByDraw_85 lk9_188 hw.k0 hw.l0 rfl (hw.p7 _) ?_
          refine go_iload_n 0 dX9_doByDraw_88 rfl rfl ?_
          refine gx_iaload (v := (M (w + 3) (((drawC (drawC (M 278 0))) / 65536 % (E : Int)).toNat))) (((drawC (drawC (M 278 0))) / 65536 % (E : Int)).toNat) dX9_doByDraw_89 hw.k3 (hw.l (by omega)) hw.n3 rfl (by omega) ((up2_ne (by omega)).trans (up2_ne (by omega))) ?_
          refine go_callVI (av := [vI ((((drawC (drawC (M 278 0))) / 65536 % (E : Int)).toNat : Nat) : Int), vI (M (w + 3) (((drawC (drawC (M 278 0))) / 65536 % (E : Int)).toNat))]) (st := []) (a := 30) (mc2 := 0) (ms2 := 0) dX9_doByDraw_90 cw9_216 (by decide) rfl rfl (Nat.le_of_ble_eq_true rfl) rfl rfl kd_30 ⟨_, _, rfl⟩ (by decide) (by omega) (ok_X6_takeOff (e := ((drawC (drawC (M 278 0))) / 65536 % (E : Int)).toNat) (M := (up2 (up2 M 278 0 (drawC (M 278 0))) 278 0 (drawC (drawC (M 278 0))))) On_30 (by omega) (hca ((drawC (drawC (M 278 0))) / 65536 % (E : Int)).toNat (by omega)) (by rw [up2_ne (by omega), up2_ne (by omega), hL.1]; have := hL.2.1; omega) (by rw [up2_ne (by omega), up2_ne (by omega)]; exact hL.2.2.1 0 (by omega)) (hB.of (M' := (up2 (up2 M 278 0 (drawC (M 278 0))) 278 0 (drawC (drawC (M 278 0))))) (fun y i (h1 : 30 ≤ y) (h2 : y ≤ 36) => (up2_ne (by omega)).trans (up2_ne (by omega)))).1 (hB.of (M' := (up2 (up2 M 278 0 (drawC (M 278 0))) 278 0 (drawC (drawC (M 278 0))))) (fun y i (h1 : 30 ≤ y) (h2 : y ≤ 36) => (up2_ne (by omega)).trans (up2_ne (by omega)))).2.1 (fun e he => by have h8 := (hB.of (M' := (up2 (up2 M 278 0 (drawC (M 278 0))) 278 0 (drawC (drawC (M 278 0))))) (fun y i (h1 : 30 ≤ y) (h2 : y ≤ 36) => (up2_ne (by omega)).trans (up2_ne (by omega)))).2.2.1 e he; have h9 := hB.2.2.2.2.2.2.2.2; exact ⟨h8.1, by have := h8.2; omega⟩) (hB.of (M' := (up2 (up2 M 278 0 (drawC (M 278 0))) 278 0 (drawC (drawC (M 278 0))))) (fun y i (h1 : 30 ≤ y) (h2 : y ≤ 36) => (up2_ne (by omega)).trans (up2_ne (by omega)))).2.2.2.1 (hB.of (M' := (up2 (up2 M 278 0 (drawC (M 278 0))) 278 0 (drawC (drawC (M 278 0))))) (fun y i (h1 : 30 ≤ y) (h2 : y ≤ 36) => (up2_ne (by omega)).trans (up2_ne (by omega)))).2.2.2.2.2.1 ?_)
          rw [show (up2 (up2 M 278 0 (drawC (M 278 0))) 278 0 (drawC (drawC (M 278 0)))) (30 + 1) 0 = M 31 0 from (up2_ne (by omega)).trans (up2_ne (by omega)), show (up2 (up2 M 278 0 (drawC (M 278 0))) 278 0 (drawC (drawC (M 278 0)))) (30 + 2) 0 = M 32 0 from (up2_ne (by omega)).trans (up2_ne (by omega))]
          refine go_pop dX9_doByDraw_93 rfl ?_
          refine go_goto (tgt := 142) dX9_doByDraw_94 rfl ?_
          refine go_ret dX9_doByDraw_142 rfl ⟨rfl, ?_⟩
          rw [mDraw] at hQ
          first | (rw [if_pos (by omega), if_pos (by omega)] at hQ; exact hQ) | (rw [if_pos (by omega), if_neg (by omega)] at hQ; exact hQ) | (rw [if_neg (by omega), if_pos (by omega), if_pos (by omega)] at hQ; exact hQ) | (rw [if_neg (by omega), if_pos (by omega), if_neg (by omega)] at hQ; exact hQ) | (rw [if_neg (by omega), if_neg (by omega), if_pos (by omega), if_pos (by omega)] at hQ; exact hQ) | (rw [if_neg (by omega), if_neg (by omega), if_pos (by omega), if_neg (by omega)] at hQ; exact hQ) | (rw [if_neg (by omega), if_neg (by omega), if_neg (by omega)] at hQ; exact hQ)
    · rw [up2_ne (by omega), up2_ne (by omega), up2_ne (by omega), up2_ne (by omega)] at q
      refine go_if_eq (tgt := 142) dX9_doByDraw_62 rfl (fun c54 => ?_) (fun c54 => ?_)
      · refine go_ret dX9_doByDraw_142 rfl ⟨rfl, ?_⟩
        rw [mDraw] at hQ
        first | (rw [if_pos (by omega), if_pos (by omega)] at hQ; exact hQ) | (rw [if_pos (by omega), if_neg (by omega)] at hQ; exact hQ) | (rw [if_neg (by omega), if_pos (by omega), if_pos (by omega)] at hQ; exact hQ) | (rw [if_neg (by omega), if_pos (by omega), if_neg (by omega)] at hQ; exact hQ) | (rw [if_neg (by omega), if_neg (by omega), if_pos (by omega), if_pos (by omega)] at hQ; exact hQ) | (rw [if_neg (by omega), if_neg (by omega), if_pos (by omega), if_neg (by omega)] at hQ; exact hQ) | (rw [if_neg (by omega), if_neg (by omega), if_neg (by omega)] at hQ; exact hQ)
      · exact absurd rfl c54
  · skip
    by_cases s2 : (drawC (M 278 0) / 65536 % 6) = 1
    · refine go_tblIn (tgt := 40) dX9_doByDraw_9 (by omega) (by omega) (by rw [s2]; rfl) rfl ?_
      refine go_aload_n 0 dX9_doByDraw_40 rfl rfl ?_
      refine go_getR (r := 278) dX9_doByDraw_41 lk9_71.get kd_0 (by omega) rfl (pp_0_9 w) ?_
      refine go_aload_n 0 dX9_doByDraw_44 rfl rfl ?_
      refine go_getR (r := w) dX9_doByDraw_45 lk9_19.get kd_0 (by omega) rfl (pp_0_1 w) ?_
      refine gx_getI (v := ((E : Nat) : Int)) dX9_doByDraw_48 lk9_111.get hw.k0 hw.l0 rfl ((up2_ne (by omega)).trans hE.1) ?_
      refine go_callVI (av := [vI ((E : Nat) : Int)]) (st := []) (a := 278) (mc2 := 0) (ms2 := 0) dX9_doByDraw_51 cw9_306 (by decide) rfl rfl (Nat.le_of_ble_eq_true rfl) rfl rfl kd_278 ⟨_, _, rfl⟩ (by decide) (by omega) (ok_X3_below (M := (up2 M 278 0 (drawC (M 278 0)))) (fun _ => ?_) (fun q => absurd q (by omega)))
      rw [show (up2 M 278 0 (drawC (M 278 0))) 278 0 = (drawC (M 278 0)) from up2_same]
      refine go_istore_n (lv' := [(1, vI (drawC (drawC (M 278 0)) / 65536 % ((E : Nat) : Int))), (0, vR 0)]) dX9_doByDraw_54 rfl (by decide) rfl ?_
      refine go_lv [0, 1] rfl ?_
      refine go_eq (lv' := [(1, vI ((((drawC (drawC (M 278 0))) / 65536 % (E : Int)).toNat : Nat) : Int)), (0, vR 0)]) (by rw [show ((((drawC (drawC (M 278 0))) / 65536 % (E : Int)).toNat : Nat) : Int) = (drawC (drawC (M 278 0))) / 65536 % (E : Int) by omega]; rfl) rfl rfl rfl rfl ?_
      refine go_aload_n 1 dX9_doByDraw_55 rfl rfl ?_
      refine go_getR (r := 30) dX9_doByDraw_56 lk9_29.get kd_0 (by omega) rfl (pp_0_3 w) ?_
      refine go_callVI (av := []) (st := []) (a := 30) (mc2 := 0) (ms2 := 0) dX9_doByDraw_59 cw9_207 (by decide) rfl rfl (Nat.le_of_ble_eq_true rfl) rfl rfl kd_30 ⟨_, _, rfl⟩ (by decide) (by omega) (ok_X6_canBePeeled (M := (up2 (up2 M 278 0 (drawC (M 278 0))) 278 0 (drawC (drawC (M 278 0))))) On_30 (fun q1 q2 => ?_) (fun q => ?_))
      · rw [up2_ne (by omega), up2_ne (by omega)] at q1 q2
        refine go_if_eq (tgt := 142) dX9_doByDraw_62 rfl (fun c53 => ?_) (fun c53 => ?_)
        · exact absurd c53 (by omega)
        · refine go_aload_n 1 dX9_doByDraw_65 rfl rfl ?_
          refine go_getR (r := w) dX9_doByDraw_66 lk9_19.get kd_0 (by omega) rfl (pp_0_1 w) ?_
          refine go_iload_n 0 dX9_doByDraw_69 rfl rfl ?_
          refine go_callVI (av := [vI ((((drawC (drawC (M 278 0))) / 65536 % (E : Int)).toNat : Nat) : Int)]) (st := []) (a := w) (mc2 := 0) (ms2 := 0) dX9_doByDraw_70 cw9_185 (by decide) rfl rfl (Nat.le_of_ble_eq_true rfl) rfl rfl hw.k0 ⟨_, _, rfl⟩ (by decide) hw.l0 (ok_X1_hasExecutor (M := (up2 (up2 M 278 0 (drawC (M 278 0))) 278 0 (drawC (drawC (M 278 0))))) hw (fun _ _ => ?_) (fun h => absurd ⟨by omega, by rw [up2_ne (by omega), up2_ne (by omega), hE.1]; omega⟩ h))
          refine go_if_eq (tgt := 142) dX9_doByDraw_73 rfl (fun c54 => ?_) (fun c54 => ?_)
          · exact absurd c54 (by omega)
          · refine go_aload_n 1 dX9_doByDraw_76 rfl rfl ?_
            refine go_getR (r := 30) dX9_doByDraw_77 lk9_29.get kd_0 (by omega) rfl (pp_0_3 w) ?_
            refine go_iload_n 0 dX9_doByDraw_80 rfl rfl ?_
            refine go_aload_n 1 dX9_doByDraw_81 rfl rfl ?_
            refine go_getR (r := w) dX9_doByDraw_82 lk9_19.get kd_0 (by omega) rfl (pp_0_1 w) ?_
            refine go_getR (r := (w + 3)) dX9_doByDraw_85 lk9_188 hw.k0 hw.l0 rfl (hw.p7 _) ?_
            refine go_iload_n 0 dX9_doByDraw_88 rfl rfl ?_
            refine gx_iaload (v := (M (w + 3) (((drawC (drawC (M 278 0))) / 65536 % (E : Int)).toNat))) (((drawC (drawC (M 278 0))) / 65536 % (E : Int)).toNat) dX9_doByDraw_89 hw.k3 (hw.l (by omega)) hw.n3 rfl (by omega) ((up2_ne (by omega)).trans (up2_ne (by omega))) ?_
            refine go_callVI (av := [vI ((((drawC (drawC (M 278 0))) / 65536 % (E : Int)).toNat : Nat) : Int), vI (M (w + 3) (((drawC (drawC (M 278 0))) / 65536 % (E : Int)).toNat))]) (st := []) (a := 30) (mc2 := 0) (ms2 := 0) dX9_doByDraw_90 cw9_216 (by decide) rfl rfl (Nat.le_of_ble_eq_true rfl) rfl rfl kd_30 ⟨_, _, rfl⟩ (by decide) (by omega) (ok_X6_takeOff (e := ((drawC (drawC (M 278 0))) / 65536 % (E : Int)).toNat) (M := (up2 (up2 M 278 0 (drawC (M 278 0))) 278 0 (drawC (drawC (M 278 0))))) On_30 (by omega) (hca ((drawC (drawC (M 278 0))) / 65536 % (E : Int)).toNat (by omega)) (by rw [up2_ne (by omega), up2_ne (by omega), hL.1]; have := hL.2.1; omega) (by rw [up2_ne (by omega), up2_ne (by omega)]; exact hL.2.2.1 0 (by omega)) (hB.of (M' := (up2 (up2 M 278 0 (drawC (M 278 0))) 278 0 (drawC (drawC (M 278 0))))) (fun y i (h1 : 30 ≤ y) (h2 : y ≤ 36) => (up2_ne (by omega)).trans (up2_ne (by omega)))).1 (hB.of (M' := (up2 (up2 M 278 0 (drawC (M 278 0))) 278 0 (drawC (drawC (M 278 0))))) (fun y i (h1 : 30 ≤ y) (h2 : y ≤ 36) => (up2_ne (by omega)).trans (up2_ne (by omega)))).2.1 (fun e he => by have h8 := (hB.of (M' := (up2 (up2 M 278 0 (drawC (M 278 0))) 278 0 (drawC (drawC (M 278 0))))) (fun y i (h1 : 30 ≤ y) (h2 : y ≤ 36) => (up2_ne (by omega)).trans (up2_ne (by omega)))).2.2.1 e he; have h9 := hB.2.2.2.2.2.2.2.2; exact ⟨h8.1, by have := h8.2; omega⟩) (hB.of (M' := (up2 (up2 M 278 0 (drawC (M 278 0))) 278 0 (drawC (drawC (M 278 0))))) (fun y i (h1 : 30 ≤ y) (h2 : y ≤ 36) => (up2_ne (by omega)).trans (up2_ne (by omega)))).2.2.2.1 (hB.of (M' := (up2 (up2 M 278 0 (drawC (M 278 0))) 278 0 (drawC (drawC (M 278 0))))) (fun y i (h1 : 30 ≤ y) (h2 : y ≤ 36) => (up2_ne (by omega)).trans (up2_ne (by omega)))).2.2.2.2.2.1 ?_)
            rw [show (up2 (up2 M 278 0 (drawC (M 278 0))) 278 0 (drawC (drawC (M 278 0)))) (30 + 1) 0 = M 31 0 from (up2_ne (by omega)).trans (up2_ne (by omega)), show (up2 (up2 M 278 0 (drawC (M 278 0))) 278 0 (drawC (drawC (M 278 0)))) (30 + 2) 0 = M 32 0 from (up2_ne (by omega)).trans (up2_ne (by omega))]
            refine go_pop dX9_doByDraw_93 rfl ?_
            refine go_goto (tgt := 142) dX9_doByDraw_94 rfl ?_
            refine go_ret dX9_doByDraw_142 rfl ⟨rfl, ?_⟩
            rw [mDraw] at hQ
            first | (rw [if_pos (by omega), if_pos (by omega)] at hQ; exact hQ) | (rw [if_pos (by omega), if_neg (by omega)] at hQ; exact hQ) | (rw [if_neg (by omega), if_pos (by omega), if_pos (by omega)] at hQ; exact hQ) | (rw [if_neg (by omega), if_pos (by omega), if_neg (by omega)] at hQ; exact hQ) | (rw [if_neg (by omega), if_neg (by omega), if_pos (by omega), if_pos (by omega)] at hQ; exact hQ) | (rw [if_neg (by omega), if_neg (by omega), if_pos (by omega), if_neg (by omega)] at hQ; exact hQ) | (rw [if_neg (by omega), if_neg (by omega), if_neg (by omega)] at hQ; exact hQ)
      · rw [up2_ne (by omega), up2_ne (by omega), up2_ne (by omega), up2_ne (by omega)] at q
        refine go_if_eq (tgt := 142) dX9_doByDraw_62 rfl (fun c55 => ?_) (fun c55 => ?_)
        · refine go_ret dX9_doByDraw_142 rfl ⟨rfl, ?_⟩
          rw [mDraw] at hQ
          first | (rw [if_pos (by omega), if_pos (by omega)] at hQ; exact hQ) | (rw [if_pos (by omega), if_neg (by omega)] at hQ; exact hQ) | (rw [if_neg (by omega), if_pos (by omega), if_pos (by omega)] at hQ; exact hQ) | (rw [if_neg (by omega), if_pos (by omega), if_neg (by omega)] at hQ; exact hQ) | (rw [if_neg (by omega), if_neg (by omega), if_pos (by omega), if_pos (by omega)] at hQ; exact hQ) | (rw [if_neg (by omega), if_neg (by omega), if_pos (by omega), if_neg (by omega)] at hQ; exact hQ) | (rw [if_neg (by omega), if_neg (by omega), if_neg (by omega)] at hQ; exact hQ)
        · exact absurd rfl c55
    · skip
      by_cases s3 : (drawC (M 278 0) / 65536 % 6) = 2
      · refine go_tblIn (tgt := 97) dX9_doByDraw_9 (by omega) (by omega) (by rw [s3]; rfl) rfl ?_
        refine go_aload_n 0 dX9_doByDraw_97 rfl rfl ?_
        refine go_getR (r := 30) dX9_doByDraw_98 lk9_29.get kd_0 (by omega) rfl (pp_0_3 w) ?_
        refine gx_getI (v := ((L : Nat) : Int)) dX9_doByDraw_101 lk9_102.get kd_30 (by omega) rfl ((up2_ne (by omega)).trans hL.1) ?_
        refine go_if_le (tgt := 142) dX9_doByDraw_104 rfl (fun c4 => ?_) (fun c4 => ?_)
        · refine go_ret dX9_doByDraw_142 rfl ⟨rfl, ?_⟩
          rw [mDraw] at hQ
          first | (rw [if_pos (by omega), if_pos (by omega)] at hQ; exact hQ) | (rw [if_pos (by omega), if_neg (by omega)] at hQ; exact hQ) | (rw [if_neg (by omega), if_pos (by omega), if_pos (by omega)] at hQ; exact hQ) | (rw [if_neg (by omega), if_pos (by omega), if_neg (by omega)] at hQ; exact hQ) | (rw [if_neg (by omega), if_neg (by omega), if_pos (by omega), if_pos (by omega)] at hQ; exact hQ) | (rw [if_neg (by omega), if_neg (by omega), if_pos (by omega), if_neg (by omega)] at hQ; exact hQ) | (rw [if_neg (by omega), if_neg (by omega), if_neg (by omega)] at hQ; exact hQ)
        · refine go_aload_n 0 dX9_doByDraw_107 rfl rfl ?_
          refine go_getR (r := 30) dX9_doByDraw_108 lk9_29.get kd_0 (by omega) rfl (pp_0_3 w) ?_
          refine go_callVV (av := []) (st := []) (a := 30) (mc2 := 0) (ms2 := 0) dX9_doByDraw_111 cw9_219 (by decide) rfl rfl (Nat.le_of_ble_eq_true rfl) rfl rfl kd_30 ⟨_, _, rfl⟩ (by decide) (by omega) (ok_X6_thicken (M := (up2 M 278 0 (drawC (M 278 0)))) On_30 (by rw [up2_ne (by omega), hL.1]; have := hL.2.1; omega) (by rw [up2_ne (by omega)]; exact (hL.2.2.1 0 (by omega)).1) ?_)
          refine go_goto (tgt := 142) dX9_doByDraw_114 rfl ?_
          refine go_ret dX9_doByDraw_142 rfl ⟨rfl, ?_⟩
          rw [mDraw] at hQ
          first | (rw [if_pos (by omega), if_pos (by omega)] at hQ; exact hQ) | (rw [if_pos (by omega), if_neg (by omega)] at hQ; exact hQ) | (rw [if_neg (by omega), if_pos (by omega), if_pos (by omega)] at hQ; exact hQ) | (rw [if_neg (by omega), if_pos (by omega), if_neg (by omega)] at hQ; exact hQ) | (rw [if_neg (by omega), if_neg (by omega), if_pos (by omega), if_pos (by omega)] at hQ; exact hQ) | (rw [if_neg (by omega), if_neg (by omega), if_pos (by omega), if_neg (by omega)] at hQ; exact hQ) | (rw [if_neg (by omega), if_neg (by omega), if_neg (by omega)] at hQ; exact hQ)
      · skip
        by_cases s5 : (drawC (M 278 0) / 65536 % 6) = 3
        · refine go_tblIn (tgt := 117) dX9_doByDraw_9 (by omega) (by omega) (by rw [s5]; rfl) rfl ?_
          refine go_aload_n 0 dX9_doByDraw_117 rfl rfl ?_
          refine go_getR (r := 30) dX9_doByDraw_118 lk9_29.get kd_0 (by omega) rfl (pp_0_3 w) ?_
          refine go_aload_n 0 dX9_doByDraw_121 rfl rfl ?_
          refine go_getR (r := 30) dX9_doByDraw_122 lk9_29.get kd_0 (by omega) rfl (pp_0_3 w) ?_
          refine gx_getI (v := (M 30 9)) dX9_doByDraw_125 lk9_123.get kd_30 (by omega) rfl (up2_ne (by omega)) ?_
          refine go_if_ne (tgt := 135) dX9_doByDraw_128 rfl (fun c6 => ?_) (fun c6 => ?_)
          · refine go_iconst dX9_doByDraw_135 (by decide) ?_
            refine go_putZ (fin := false) dX9_doByDraw_136 (Or.inr ⟨lk9_123, rfl⟩) kd_30 (by omega) rfl (Or.inl rfl) (by decide) ?_
            refine go_goto (tgt := 142) dX9_doByDraw_139 rfl ?_
            refine go_ret dX9_doByDraw_142 rfl ⟨rfl, ?_⟩
            rw [mDraw] at hQ
            first | (rw [if_pos (by omega), if_pos (by omega)] at hQ; exact hQ) | (rw [if_pos (by omega), if_neg (by omega)] at hQ; exact hQ) | (rw [if_neg (by omega), if_pos (by omega), if_pos (by omega)] at hQ; exact hQ) | (rw [if_neg (by omega), if_pos (by omega), if_neg (by omega)] at hQ; exact hQ) | (rw [if_neg (by omega), if_neg (by omega), if_pos (by omega), if_pos (by omega)] at hQ; exact hQ) | (rw [if_neg (by omega), if_neg (by omega), if_pos (by omega), if_neg (by omega)] at hQ; exact hQ) | (rw [if_neg (by omega), if_neg (by omega), if_neg (by omega)] at hQ; exact hQ)
          · refine go_iconst dX9_doByDraw_131 (by decide) ?_
            refine go_goto (tgt := 136) dX9_doByDraw_132 rfl ?_
            refine go_putZ (fin := false) dX9_doByDraw_136 (Or.inr ⟨lk9_123, rfl⟩) kd_30 (by omega) rfl (Or.inl rfl) (by decide) ?_
            refine go_goto (tgt := 142) dX9_doByDraw_139 rfl ?_
            refine go_ret dX9_doByDraw_142 rfl ⟨rfl, ?_⟩
            rw [mDraw] at hQ
            first | (rw [if_pos (by omega), if_pos (by omega)] at hQ; exact hQ) | (rw [if_pos (by omega), if_neg (by omega)] at hQ; exact hQ) | (rw [if_neg (by omega), if_pos (by omega), if_pos (by omega)] at hQ; exact hQ) | (rw [if_neg (by omega), if_pos (by omega), if_neg (by omega)] at hQ; exact hQ) | (rw [if_neg (by omega), if_neg (by omega), if_pos (by omega), if_pos (by omega)] at hQ; exact hQ) | (rw [if_neg (by omega), if_neg (by omega), if_pos (by omega), if_neg (by omega)] at hQ; exact hQ) | (rw [if_neg (by omega), if_neg (by omega), if_neg (by omega)] at hQ; exact hQ)
        · skip
          refine go_tblOut (tgt := 142) dX9_doByDraw_9 (by omega) rfl ?_
          refine go_ret dX9_doByDraw_142 rfl ⟨rfl, ?_⟩
          rw [mDraw] at hQ
          first | (rw [if_pos (by omega), if_pos (by omega)] at hQ; exact hQ) | (rw [if_pos (by omega), if_neg (by omega)] at hQ; exact hQ) | (rw [if_neg (by omega), if_pos (by omega), if_pos (by omega)] at hQ; exact hQ) | (rw [if_neg (by omega), if_pos (by omega), if_neg (by omega)] at hQ; exact hQ) | (rw [if_neg (by omega), if_neg (by omega), if_pos (by omega), if_pos (by omega)] at hQ; exact hQ) | (rw [if_neg (by omega), if_neg (by omega), if_pos (by omega), if_neg (by omega)] at hQ; exact hQ) | (rw [if_neg (by omega), if_neg (by omega), if_neg (by omega)] at hQ; exact hQ)

set_option maxHeartbeats 4000000 in
set_option maxRecDepth 100000 in
theorem lp_X9_drift {w n : Nat} {Q : Int → Nat → rfm → inm → Prop} (hw : Cs w) (hn : n ≤ 30) (I : Nat → inm → Prop) (hstep : ∀ k M', k < n → I k M' → ∃ x c L E U L2, YP M' w x c L E U ∧ Lay (if E = 0 then mRem M' x c else mDraw (mRem M' x c) w E) 30 L2 ∧ Bd (if E = 0 then mRem M' x c else mDraw (mRem M' x c) w E) 30 (U + 1) ∧ (∀ y j, y < 30 → (if E = 0 then mRem M' x c else mDraw (mRem M' x c) w E) y j = M' y j) ∧ I (k + 1) (mYear (if E = 0 then mRem M' x c else mDraw (mRem M' x c) w E) 30 w L2 E)) (hQ : ∀ M', I n M' → Q (M' 30 8) 303 (PP w) M') : ∀ d k, n < k + d → k ≤ n → ∀ M' : inm, I k M' → Go S0 yX9_drift cX9_drift 4 4 0 0 (some .int) 14 [(3, vI ((k : Nat) : Int)), (0, vR 0), (1, vI ((n : Nat) : Int))] [] 303 (PP w) M' (fun v n P M => ∃ z, v = some (vI z) ∧ Q z n P M) := by
  have hw30 := kdw hw
  intro d
  induction d with
  | zero => intro k h1 h2; exfalso; omega
  | succ d ih =>
    intro k h1 h2 M' hI
    refine go_iload_n 0 dX9_drift_14 rfl rfl ?_
    refine go_iload_n 2 dX9_drift_15 rfl rfl ?_
    refine go_icmp_ge (tgt := 61) dX9_drift_16 rfl (fun c1 => ?_) (fun c1 => ?_)
    · refine go_aload_n 1 dX9_drift_61 rfl rfl ?_
      refine go_getR (r := 30) dX9_drift_62 lk9_29.get kd_0 (by omega) rfl (pp_0_3 w) ?_
      refine gx_getI (v := (M' 30 8)) dX9_drift_65 lk9_120.get kd_30 (by omega) rfl rfl ?_
      refine go_iret dX9_drift_68 rfl rfl ⟨_, rfl, ?_⟩
      rw [show k = n by omega] at hI
      exact hQ M' hI
    · obtain ⟨x, c, L, E, U, L2, ⟨-, hx, hc, hB, hL, hE, hca, hqu⟩, hL2, hB2, hfr, hI2⟩ := hstep k M' (by omega) hI
      refine go_aload_n 1 dX9_drift_19 rfl rfl ?_
      refine go_getR (r := 37) dX9_drift_20 lk9_36.get kd_0 (by omega) rfl (pp_0_4 w) ?_
      refine go_aload_n 1 dX9_drift_23 rfl rfl ?_
      refine go_getR (r := 30) dX9_drift_24 lk9_29.get kd_0 (by omega) rfl (pp_0_3 w) ?_
      refine go_callVV (av := [vR 30]) (st := []) (a := 37) (mc2 := 0) (ms2 := 0) dX9_drift_27 cw9_212 (by decide) rfl rfl (Nat.le_of_ble_eq_true rfl) rfl rfl kd_37 ⟨_, _, rfl⟩ (by decide) (by omega) (ok_X2_remember (M := M') hx.1 hx.2 hc.1 hc.2 hB ?_)
      refine go_aload_n 1 dX9_drift_30 rfl rfl ?_
      refine go_getR (r := w) dX9_drift_31 lk9_19.get kd_0 (by omega) rfl (pp_0_1 w) ?_
      refine gx_getI (v := ((E : Nat) : Int)) dX9_drift_34 lk9_111.get hw.k0 hw.l0 rfl (((mRem_out hx.2 (by omega))).trans hE.1) ?_
      refine go_if_le (tgt := 44) dX9_drift_37 rfl (fun c1 => ?_) (fun c1 => ?_)
      · refine go_m (M' := (if E = 0 then mRem M' x c else mDraw (mRem M' x c) w E)) ((if_pos (by omega)).symm) ?_
        refine go_aload_n 1 dX9_drift_44 rfl rfl ?_
        refine go_getR (r := 30) dX9_drift_45 lk9_29.get kd_0 (by omega) rfl (pp_0_3 w) ?_
        refine go_aload_n 1 dX9_drift_48 rfl rfl ?_
        refine go_getR (r := w) dX9_drift_49 lk9_19.get kd_0 (by omega) rfl (pp_0_1 w) ?_
        refine go_callVV (av := [vR w]) (st := []) (a := 30) (mc2 := 0) (ms2 := 0) dX9_drift_52 cw9_225 (by decide) rfl rfl (Nat.le_of_ble_eq_true rfl) rfl rfl kd_30 ⟨_, _, rfl⟩ (by decide) (by omega) (ok_X6_passYear (M := (if E = 0 then mRem M' x c else mDraw (mRem M' x c) w E)) (L := L2) (E := E) On_30 hw hL2 ⟨(hfr w 3 (by omega)).trans hE.1, hE.2⟩ (fun e he => hB2.2.1 e (by omega)) (fun e he => by rw [hfr (w + 4) e (by omega)]; exact hqu e he) (by have h9 := hB2.2.2.2.2.1; have h10 := hB2.2.2.2.2.2.2.2.2; exact ⟨h9.1, by have := h9.2; omega⟩) ?_)
        refine gx_iinc (v := ((k + 1 : Nat) : Int)) (lv' := [(3, vI ((k + 1 : Nat) : Int)), (0, vR 0), (1, vI ((n : Nat) : Int))]) 0 dX9_drift_55 rfl (by omega) ⟨by omega, by omega⟩ (by decide) rfl ?_
        refine go_goto (tgt := 14) dX9_drift_58 rfl ?_
        refine go_lv [0, 1, 2] rfl ?_
        exact ih (k + 1) (by omega) (by omega) _ hI2
      · refine go_aload_n 1 dX9_drift_40 rfl rfl ?_
        refine go_callVV (av := []) (st := []) (a := 0) (mc2 := 0) (ms2 := 0) dX9_drift_41 cw9_228 (by decide) rfl rfl (Nat.le_of_ble_eq_true rfl) rfl rfl kd_0 ⟨_, _, rfl⟩ (by decide) (by omega) (ok_X9_doByDraw (M := mRem M' x c) (L := L) (U := U) hw ⟨(mRem_out hx.2 (by omega)).trans hE.1, by omega, hE.2⟩ (hL.rem hx.2) (hB.rem hx.2) (fun e he => by rw [mRem_out hx.2 (by omega)]; exact hca e he) ?_)
        refine go_m (M' := (if E = 0 then mRem M' x c else mDraw (mRem M' x c) w E)) ((if_neg (by omega)).symm) ?_
        refine go_aload_n 1 dX9_drift_44 rfl rfl ?_
        refine go_getR (r := 30) dX9_drift_45 lk9_29.get kd_0 (by omega) rfl (pp_0_3 w) ?_
        refine go_aload_n 1 dX9_drift_48 rfl rfl ?_
        refine go_getR (r := w) dX9_drift_49 lk9_19.get kd_0 (by omega) rfl (pp_0_1 w) ?_
        refine go_callVV (av := [vR w]) (st := []) (a := 30) (mc2 := 0) (ms2 := 0) dX9_drift_52 cw9_225 (by decide) rfl rfl (Nat.le_of_ble_eq_true rfl) rfl rfl kd_30 ⟨_, _, rfl⟩ (by decide) (by omega) (ok_X6_passYear (M := (if E = 0 then mRem M' x c else mDraw (mRem M' x c) w E)) (L := L2) (E := E) On_30 hw hL2 ⟨(hfr w 3 (by omega)).trans hE.1, hE.2⟩ (fun e he => hB2.2.1 e (by omega)) (fun e he => by rw [hfr (w + 4) e (by omega)]; exact hqu e he) (by have h9 := hB2.2.2.2.2.1; have h10 := hB2.2.2.2.2.2.2.2.2; exact ⟨h9.1, by have := h9.2; omega⟩) ?_)
        refine gx_iinc (v := ((k + 1 : Nat) : Int)) (lv' := [(3, vI ((k + 1 : Nat) : Int)), (0, vR 0), (1, vI ((n : Nat) : Int))]) 0 dX9_drift_55 rfl (by omega) ⟨by omega, by omega⟩ (by decide) rfl ?_
        refine go_goto (tgt := 14) dX9_drift_58 rfl ?_
        refine go_lv [0, 1, 2] rfl ?_
        exact ih (k + 1) (by omega) (by omega) _ hI2

set_option maxHeartbeats 4000000 in
set_option maxRecDepth 100000 in
theorem ok_X9_drift_in {w n : Nat} {M : inm} {Q : Int → Nat → rfm → inm → Prop} (hw : Cs w) (hn : 1 ≤ n ∧ n ≤ 30) (h0 : ¬ M w 0 = 0) (h9 : ¬ 9000 < M 30 8) (I : Nat → inm → Prop) (hstep : ∀ k M', k < n → I k M' → ∃ x c L E U L2, YP M' w x c L E U ∧ Lay (if E = 0 then mRem M' x c else mDraw (mRem M' x c) w E) 30 L2 ∧ Bd (if E = 0 then mRem M' x c else mDraw (mRem M' x c) w E) 30 (U + 1) ∧ (∀ y j, y < 30 → (if E = 0 then mRem M' x c else mDraw (mRem M' x c) w E) y j = M' y j) ∧ I (k + 1) (mYear (if E = 0 then mRem M' x c else mDraw (mRem M' x c) w E) 30 w L2 E)) (hQ : ∀ M', I n M' → Q (M' 30 8) 303 (PP w) M') (hI : I 0 M) : OkI yX9_drift cX9_drift 4 4 0 0 (some .int) [vR 0, vI ((n : Nat) : Int)] 303 (PP w) M Q := by
  refine OkI.of (by decide +kernel) (by decide +kernel) (Nat.le_of_ble_eq_true rfl) ?_
  refine go_eq (lv' := [(0, vR 0), (1, vI ((n : Nat) : Int))]) rfl rfl rfl rfl rfl ?_
  refine go_aload_n 0 dX9_drift_0 rfl rfl ?_
  refine go_iload_n 1 dX9_drift_1 rfl rfl ?_
  refine go_callVI (av := [vI ((n : Nat) : Int)]) (st := []) (a := 0) (mc2 := 0) (ms2 := 0) dX9_drift_2 cw9_222 (by decide) rfl rfl (Nat.le_of_ble_eq_true rfl) rfl rfl kd_0 ⟨_, _, rfl⟩ (by decide) (by omega) (ok_X9_refusalOfYears hw (fun q => absurd (by omega) q) (fun q1 q2 => absurd q2 h0) (fun q1 q2 q3 => absurd q3 h9) (fun _ _ _ => ?_))
  refine go_istore_n (lv' := [(2, vI 0), (0, vR 0), (1, vI ((n : Nat) : Int))]) dX9_drift_5 rfl (by decide) rfl ?_
  refine go_iload_n 0 dX9_drift_6 rfl rfl ?_
  refine go_if_eq (tgt := 12) dX9_drift_7 rfl (fun c1 => ?_) (fun c1 => ?_)
  · refine go_iconst dX9_drift_12 (by decide) ?_
    refine go_istore_n (lv' := [(3, vI 0), (2, vI 0), (0, vR 0), (1, vI ((n : Nat) : Int))]) dX9_drift_13 rfl (by decide) rfl ?_
    refine go_lv [0, 2, 3] rfl ?_
    exact lp_X9_drift hw hn.2 I hstep hQ (n + 1) 0 (by omega) (by omega) M hI
  · exact absurd rfl c1

