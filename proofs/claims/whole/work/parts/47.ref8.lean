/-! ===== the reference: turns, shares, questions ===== -/
/-- but for the reference's scratch rows nothing has changed -/
def Sr (M M' : inm) : Prop := ∀ x j, x < 298 ∨ 300 < x → M' x j = M x j
theorem Sr.rf (M : inm) : Sr M M := fun _ _ _ => rfl
theorem Sr.up {M M' : inm} {a j : Nat} {z : Int} (h : Sr M M') (ha : 298 ≤ a ∧ a ≤ 300) : Sr M (up2 M' a j z) := fun x i hx => (up2_ne (by omega)).trans (h x i hx)
theorem Sr.ov {M M' : inm} {a n : Nat} {f : Nat → Int} (h : Sr M M') (ha : 298 ≤ a ∧ a ≤ 300) : Sr M (ov M' a n f) := fun x i hx => (ov_out (by omega)).trans (h x i hx)
set_option maxHeartbeats 4000000 in
set_option maxRecDepth 100000 in
theorem lp_X10_byTurns {w L : Nat} {a : Int} {M : inm} {Q : Int → Nat → rfm → inm → Prop} (hL : Lay10 M L) (ha : a = 0 ∨ a = 1) (g0 : a = 0 → ∀ M' : inm, Sr M M' → Q ((btS (fun j => worth (M 284 (j + 1)) (M 284 (j + 13))) L L).1 + 1000) 303 (PP w) M') (g1 : a = 1 → ∀ M' : inm, Sr M M' → Q (btS (fun j => worth (M 284 (j + 1)) (M 284 (j + 13))) L L).2.2 303 (PP w) M') : ∀ m, m ≤ L → ∀ M' : inm, Sr M M' → M' 299 m = (btS (fun j => worth (M 284 (j + 1)) (M 284 (j + 13))) L (L - m)).1 → (m < L → M' 299 (m + 1) = (btS (fun j => worth (M 284 (j + 1)) (M 284 (j + 13))) L (L - m)).2.1) → Go S0 yX10_byTurns cX10_byTurns 7 2 0 0 (some .int) 34 [(4, vI ((m : Int) - 1)), (3, vI (btS (fun j => worth (M 284 (j + 1)) (M 284 (j + 13))) L (L - m)).2.2), (2, vI ((L : Nat) : Int)), (0, vR 279), (1, vI a)] [] 303 (PP w) M' (fun v n P M => ∃ z, v = some (vI z) ∧ Q z n P M) := by
  have hL12 := hL.2.1
  have hW : ∀ j, j < L → 0 ≤ (fun j => worth (M 284 (j + 1)) (M 284 (j + 13))) j ∧ (fun j => worth (M 284 (j + 1)) (M 284 (j + 13))) j ≤ 40 := (fun j hj => by have h9 := hL.2.2.1 j (by omega); have h8 := worth_in (c := M 284 (j + 1)) h9.1; exact ⟨h8.1, Int.le_trans h8.2 (by have : M 284 (j + 13) ≤ 20 := h9.2; show 2 * M 284 (j + 13) ≤ 40; omega)⟩)
  intro m
  induction m with
  | zero =>
    intro hm M' hs h1 h2
    have hb0 := bt_in hW L (Nat.le_refl L)
    refine go_iload 0 dX10_byTurns_34 rfl ?_
    refine go_if_lt (tgt := 143) dX10_byTurns_36 rfl (fun c1 => ?_) (fun c1 => ?_)
    · refine go_iload_n 4 dX10_byTurns_143 rfl rfl ?_
      refine go_if_ne (tgt := 160) dX10_byTurns_144 rfl (fun c2 => ?_) (fun c2 => ?_)
      · refine go_iload_n 1 dX10_byTurns_160 rfl rfl ?_
        refine go_iret dX10_byTurns_161 rfl rfl ⟨_, rfl, ?_⟩
        first | exact g0 (by omega) M' hs | exact g1 (by omega) M' hs
      · refine go_aload_n 3 dX10_byTurns_147 rfl rfl ?_
        refine go_getR (r := 299) dX10_byTurns_148 lk10_71.get kd_279 (by omega) rfl (pp_279_36 w) ?_
        refine go_iconst dX10_byTurns_151 (by decide) ?_
        refine gx_iaload (v := (btS (fun j => worth (M 284 (j + 1)) (M 284 (j + 13))) L L).1) 0 dX10_byTurns_152 kd_299 (by omega) ln_299 (by omega) (by omega) h1 ?_
        refine go_sipush dX10_byTurns_153 (by decide) (by decide) ?_
        refine gx_iadd (v := ((btS (fun j => worth (M 284 (j + 1)) (M 284 (j + 13))) L L).1 + 1000)) dX10_byTurns_156 rfl ⟨by omega, by omega⟩ ?_
        refine go_goto (tgt := 161) dX10_byTurns_157 rfl ?_
        refine go_iret dX10_byTurns_161 rfl rfl ⟨_, rfl, ?_⟩
        first | exact g0 (by omega) M' hs | exact g1 (by omega) M' hs
    · exact absurd c1 (by omega)
  | succ m ih =>
    intro hm M' hs h1 h2
    have hb := bt_in hW (L - (m + 1)) (by omega)
    refine go_eq (lv' := [(4, vI ((m : Nat) : Int)), (3, vI (btS (fun j => worth (M 284 (j + 1)) (M 284 (j + 13))) L (L - (m + 1))).2.2), (2, vI ((L : Nat) : Int)), (0, vR 279), (1, vI a)]) (by rw [show ((m + 1 : Nat) : Int) - 1 = ((m : Nat) : Int) by omega]) rfl rfl rfl rfl ?_
    refine go_iload 0 dX10_byTurns_34 rfl ?_
    refine go_if_lt (tgt := 143) dX10_byTurns_36 rfl (fun c1 => ?_) (fun c1 => ?_)
    · exact absurd c1 (by omega)
    · refine go_aload_n 3 dX10_byTurns_39 rfl rfl ?_
      refine go_iload 0 dX10_byTurns_40 rfl ?_
      refine go_callVI (av := [vI ((m : Nat) : Int)]) (st := []) (a := 279) (mc2 := 0) (ms2 := 0) dX10_byTurns_42 cw10_224 (by decide) rfl rfl (Nat.le_of_ble_eq_true rfl) rfl rfl kd_279 ⟨_, _, rfl⟩ (by decide) (by omega) (ok_X10_worthOf (k := m) (M := M') (by omega) (by rw [hs 284 (m + 13) (Or.inl (by omega))]; exact hL.2.2.1 m (by omega)) ?_)
      rw [hs 284 (m + 1) (Or.inl (by omega)), hs 284 (m + 13) (Or.inl (by omega))]
      have g2 := worth_in (c := M 284 (m + 1)) (hL.2.2.1 m (by omega)).1
      have g2b := hL.2.2.1 m (by omega)
      refine go_aload_n 3 dX10_byTurns_45 rfl rfl ?_
      refine go_getR (r := 299) dX10_byTurns_46 lk10_71.get kd_279 (by omega) rfl (pp_279_36 w) ?_
      refine go_iload 0 dX10_byTurns_49 rfl ?_
      refine go_iconst dX10_byTurns_51 (by decide) ?_
      refine gx_iadd (v := ((m + 1 : Nat) : Int)) dX10_byTurns_52 (by omega) ⟨by omega, by omega⟩ ?_
      refine gx_iaload (v := (btS (fun j => worth (M 284 (j + 1)) (M 284 (j + 13))) L (L - (m + 1))).1) (m + 1) dX10_byTurns_53 kd_299 (by omega) ln_299 rfl (by omega) h1 ?_
      refine gx_isub (v := ((worth (M 284 (m + 1)) (M 284 (m + 13))) - (btS (fun j => worth (M 284 (j + 1)) (M 284 (j + 13))) L (L - (m + 1))).1)) dX10_byTurns_54 rfl ⟨by omega, by omega⟩ ?_
      refine go_istore (lv' := [(5, vI ((worth (M 284 (m + 1)) (M 284 (m + 13))) - (btS (fun j => worth (M 284 (j + 1)) (M 284 (j + 13))) L (L - (m + 1))).1)), (4, vI ((m : Nat) : Int)), (3, vI ((btS (fun j => worth (M 284 (j + 1)) (M 284 (j + 13))) L (L - (m + 1))).2.2)), (2, vI ((L : Nat) : Int)), (0, vR 279), (1, vI a)]) dX10_byTurns_55 (by decide) rfl ?_
      refine go_iconst dX10_byTurns_57 (by decide) ?_
      refine go_istore_n (lv' := [(3, vI 1), (5, vI ((worth (M 284 (m + 1)) (M 284 (m + 13))) - (btS (fun j => worth (M 284 (j + 1)) (M 284 (j + 13))) L (L - (m + 1))).1)), (4, vI ((m : Nat) : Int)), (2, vI ((L : Nat) : Int)), (0, vR 279), (1, vI a)]) dX10_byTurns_58 rfl (by decide) rfl ?_
      refine go_aload_n 4 dX10_byTurns_59 rfl rfl ?_
      refine go_getR (r := 299) dX10_byTurns_60 lk10_71.get kd_279 (by omega) rfl (pp_279_36 w) ?_
      refine go_iload 2 dX10_byTurns_63 rfl ?_
      refine go_iload 1 dX10_byTurns_65 rfl ?_
      refine gx_iastore m dX10_byTurns_67 kd_299 (by omega) ln_299 rfl (by omega) ?_
      refine go_iload 2 dX10_byTurns_68 rfl ?_
      refine go_iconst dX10_byTurns_70 (by decide) ?_
      refine gx_iadd (v := ((m + 2 : Nat) : Int)) dX10_byTurns_71 (by omega) ⟨by omega, by omega⟩ ?_
      refine go_iload_n 3 dX10_byTurns_72 rfl rfl ?_
      refine go_icmp_gt (tgt := 137) dX10_byTurns_73 rfl (fun c3 => ?_) (fun c3 => ?_)
      · refine gx_iinc (v := (((m : Nat) : Int) + (-1))) (lv' := [(4, vI (((m : Nat) : Int) + (-1))), (3, vI 1), (5, vI ((worth (M 284 (m + 1)) (M 284 (m + 13))) - (btS (fun j => worth (M 284 (j + 1)) (M 284 (j + 13))) L (L - (m + 1))).1)), (2, vI ((L : Nat) : Int)), (0, vR 279), (1, vI a)]) 2 dX10_byTurns_137 rfl rfl ⟨by omega, by omega⟩ (by decide) rfl ?_
        refine go_goto (tgt := 34) dX10_byTurns_140 rfl ?_
        refine go_lv [0, 1, 3, 4, 5] rfl ?_
        have hd : L - m = (L - (m + 1)) + 1 := by omega
        have he : (btS (fun j => worth (M 284 (j + 1)) (M 284 (j + 13))) L (L - m)) = (((worth (M 284 (m + 1)) (M 284 (m + 13))) - (btS (fun j => worth (M 284 (j + 1)) (M 284 (j + 13))) L (L - (m + 1))).1), (btS (fun j => worth (M 284 (j + 1)) (M 284 (j + 13))) L (L - (m + 1))).1, 1) := by
          rw [hd, btS]
          simp only [show L - ((L - (m + 1)) + 1) = m by omega]
          first | (exfalso; omega) | (rw [if_pos (by omega), show L - 1 = m by omega]; done) | (rw [if_neg (by omega), if_pos (by omega)]; done) | (rw [if_neg (by omega), if_neg (by omega)]; done)
        refine go_eq (lv' := [(4, vI ((m : Int) - 1)), (3, vI (btS (fun j => worth (M 284 (j + 1)) (M 284 (j + 13))) L (L - m)).2.2), (2, vI ((L : Nat) : Int)), (0, vR 279), (1, vI a)]) (by rw [he]; rfl) rfl rfl rfl rfl ?_
        refine ih (by omega) _ (hs.up (by omega)) (by rw [he]; exact up2_same) (fun _ => by rw [he]; exact ((up2_ne (by omega)).trans h1))
      · refine go_aload_n 4 dX10_byTurns_76 rfl rfl ?_
        refine go_iload 2 dX10_byTurns_77 rfl ?_
        refine go_callVI (av := [vI ((m : Nat) : Int)]) (st := []) (a := 279) (mc2 := 0) (ms2 := 0) dX10_byTurns_79 cw10_224 (by decide) rfl rfl (Nat.le_of_ble_eq_true rfl) rfl rfl kd_279 ⟨_, _, rfl⟩ (by decide) (by omega) (ok_X10_worthOf (k := m) (M := (up2 M' 299 m ((worth (M 284 (m + 1)) (M 284 (m + 13))) - (btS (fun j => worth (M 284 (j + 1)) (M 284 (j + 13))) L (L - (m + 1))).1))) (by omega) (by rw [(hs.up (by omega)) 284 (m + 13) (Or.inl (by omega))]; exact hL.2.2.1 m (by omega)) ?_)
        rw [(hs.up (by omega)) 284 (m + 1) (Or.inl (by omega)), (hs.up (by omega)) 284 (m + 13) (Or.inl (by omega))]
        have g4 := worth_in (c := M 284 (m + 1)) (hL.2.2.1 m (by omega)).1
        have g4b := hL.2.2.1 m (by omega)
        refine go_aload_n 4 dX10_byTurns_82 rfl rfl ?_
        refine go_iload 2 dX10_byTurns_83 rfl ?_
        refine go_iconst dX10_byTurns_85 (by decide) ?_
        refine gx_iadd (v := ((m + 1 : Nat) : Int)) dX10_byTurns_86 (by omega) ⟨by omega, by omega⟩ ?_
        refine go_callVI (av := [vI ((m + 1 : Nat) : Int)]) (st := [vI (worth (M 284 (m + 1)) (M 284 (m + 13)))]) (a := 279) (mc2 := 0) (ms2 := 0) dX10_byTurns_87 cw10_224 (by decide) rfl rfl (Nat.le_of_ble_eq_true rfl) rfl rfl kd_279 ⟨_, _, rfl⟩ (by decide) (by omega) (ok_X10_worthOf (k := m + 1) (M := (up2 M' 299 m ((worth (M 284 (m + 1)) (M 284 (m + 13))) - (btS (fun j => worth (M 284 (j + 1)) (M 284 (j + 13))) L (L - (m + 1))).1))) (by omega) (by rw [(hs.up (by omega)) 284 (m + 1 + 13) (Or.inl (by omega))]; exact hL.2.2.1 (m + 1) (by omega)) ?_)
        rw [(hs.up (by omega)) 284 (m + 1 + 1) (Or.inl (by omega)), (hs.up (by omega)) 284 (m + 1 + 13) (Or.inl (by omega))]
        have g5 := worth_in (c := M 284 (m + 1 + 1)) (hL.2.2.1 (m + 1) (by omega)).1
        have g5b := hL.2.2.1 (m + 1) (by omega)
        refine gx_iadd (v := ((worth (M 284 (m + 1)) (M 284 (m + 13))) + (worth (M 284 (m + 1 + 1)) (M 284 (m + 1 + 13))))) dX10_byTurns_90 rfl ⟨by omega, by omega⟩ ?_
        refine go_aload_n 4 dX10_byTurns_91 rfl rfl ?_
        refine go_getR (r := 299) dX10_byTurns_92 lk10_71.get kd_279 (by omega) rfl (pp_279_36 w) ?_
        refine go_iload 2 dX10_byTurns_95 rfl ?_
        refine go_iconst dX10_byTurns_97 (by decide) ?_
        refine gx_iadd (v := ((m + 2 : Nat) : Int)) dX10_byTurns_98 (by omega) ⟨by omega, by omega⟩ ?_
        refine gx_iaload (v := (btS (fun j => worth (M 284 (j + 1)) (M 284 (j + 13))) L (L - (m + 1))).2.1) (m + 2) dX10_byTurns_99 kd_299 (by omega) ln_299 rfl (by omega) ((up2_ne (by omega)).trans ((h2 (by omega)))) ?_
        refine gx_isub (v := (((worth (M 284 (m + 1)) (M 284 (m + 13))) + (worth (M 284 (m + 1 + 1)) (M 284 (m + 1 + 13)))) - (btS (fun j => worth (M 284 (j + 1)) (M 284 (j + 13))) L (L - (m + 1))).2.1)) dX10_byTurns_100 rfl ⟨by omega, by omega⟩ ?_
        refine go_istore (lv' := [(6, vI (((worth (M 284 (m + 1)) (M 284 (m + 13))) + (worth (M 284 (m + 1 + 1)) (M 284 (m + 1 + 13)))) - (btS (fun j => worth (M 284 (j + 1)) (M 284 (j + 13))) L (L - (m + 1))).2.1)), (3, vI 1), (5, vI ((worth (M 284 (m + 1)) (M 284 (m + 13))) - (btS (fun j => worth (M 284 (j + 1)) (M 284 (j + 13))) L (L - (m + 1))).1)), (4, vI ((m : Nat) : Int)), (2, vI ((L : Nat) : Int)), (0, vR 279), (1, vI a)]) dX10_byTurns_101 (by decide) rfl ?_
        refine go_iload 0 dX10_byTurns_103 rfl ?_
        refine go_iload 2 dX10_byTurns_105 rfl ?_
        refine go_icmp_le (tgt := 114) dX10_byTurns_107 rfl (fun c6 => ?_) (fun c6 => ?_)
        · refine go_iconst dX10_byTurns_114 (by decide) ?_
          refine go_istore_n (lv' := [(3, vI 1), (6, vI (((worth (M 284 (m + 1)) (M 284 (m + 13))) + (worth (M 284 (m + 1 + 1)) (M 284 (m + 1 + 13)))) - (btS (fun j => worth (M 284 (j + 1)) (M 284 (j + 13))) L (L - (m + 1))).2.1)), (5, vI ((worth (M 284 (m + 1)) (M 284 (m + 13))) - (btS (fun j => worth (M 284 (j + 1)) (M 284 (j + 13))) L (L - (m + 1))).1)), (4, vI ((m : Nat) : Int)), (2, vI ((L : Nat) : Int)), (0, vR 279), (1, vI a)]) dX10_byTurns_115 rfl (by decide) rfl ?_
          refine go_aload_n 5 dX10_byTurns_116 rfl rfl ?_
          refine go_getR (r := 299) dX10_byTurns_117 lk10_71.get kd_279 (by omega) rfl (pp_279_36 w) ?_
          refine go_iload 3 dX10_byTurns_120 rfl ?_
          refine go_iload 1 dX10_byTurns_122 rfl ?_
          refine go_iload 2 dX10_byTurns_124 rfl ?_
          refine go_icmp_le (tgt := 134) dX10_byTurns_126 rfl (fun c7 => ?_) (fun c7 => ?_)
          · refine go_iload 2 dX10_byTurns_134 rfl ?_
            refine gx_iastore m dX10_byTurns_136 kd_299 (by omega) ln_299 rfl (by omega) ?_
            refine gx_iinc (v := (((m : Nat) : Int) + (-1))) (lv' := [(4, vI (((m : Nat) : Int) + (-1))), (3, vI 1), (6, vI (((worth (M 284 (m + 1)) (M 284 (m + 13))) + (worth (M 284 (m + 1 + 1)) (M 284 (m + 1 + 13)))) - (btS (fun j => worth (M 284 (j + 1)) (M 284 (j + 13))) L (L - (m + 1))).2.1)), (5, vI ((worth (M 284 (m + 1)) (M 284 (m + 13))) - (btS (fun j => worth (M 284 (j + 1)) (M 284 (j + 13))) L (L - (m + 1))).1)), (2, vI ((L : Nat) : Int)), (0, vR 279), (1, vI a)]) 3 dX10_byTurns_137 rfl rfl ⟨by omega, by omega⟩ (by decide) rfl ?_
            refine go_goto (tgt := 34) dX10_byTurns_140 rfl ?_
            refine go_lv [0, 1, 4, 5, 6] rfl ?_
            have hd : L - m = (L - (m + 1)) + 1 := by omega
            have he : (btS (fun j => worth (M 284 (j + 1)) (M 284 (j + 13))) L (L - m)) = (((worth (M 284 (m + 1)) (M 284 (m + 13))) - (btS (fun j => worth (M 284 (j + 1)) (M 284 (j + 13))) L (L - (m + 1))).1), (btS (fun j => worth (M 284 (j + 1)) (M 284 (j + 13))) L (L - (m + 1))).1, 1) := by
              rw [hd, btS]
              simp only [show L - ((L - (m + 1)) + 1) = m by omega]
              first | (exfalso; omega) | (rw [if_pos (by omega), show L - 1 = m by omega]; done) | (rw [if_neg (by omega), if_pos (by omega)]; done) | (rw [if_neg (by omega), if_neg (by omega)]; done)
            refine go_eq (lv' := [(4, vI ((m : Int) - 1)), (3, vI (btS (fun j => worth (M 284 (j + 1)) (M 284 (j + 13))) L (L - m)).2.2), (2, vI ((L : Nat) : Int)), (0, vR 279), (1, vI a)]) (by rw [he]; rfl) rfl rfl rfl rfl ?_
            refine ih (by omega) _ ((hs.up (by omega)).up (by omega)) (by rw [he]; exact up2_same) (fun _ => by rw [he]; exact ((up2_ne (by omega)).trans ((up2_ne (by omega)).trans h1)))
          · refine go_iload 1 dX10_byTurns_129 rfl ?_
            refine go_goto (tgt := 136) dX10_byTurns_131 rfl ?_
            refine gx_iastore m dX10_byTurns_136 kd_299 (by omega) ln_299 rfl (by omega) ?_
            refine gx_iinc (v := (((m : Nat) : Int) + (-1))) (lv' := [(4, vI (((m : Nat) : Int) + (-1))), (3, vI 1), (6, vI (((worth (M 284 (m + 1)) (M 284 (m + 13))) + (worth (M 284 (m + 1 + 1)) (M 284 (m + 1 + 13)))) - (btS (fun j => worth (M 284 (j + 1)) (M 284 (j + 13))) L (L - (m + 1))).2.1)), (5, vI ((worth (M 284 (m + 1)) (M 284 (m + 13))) - (btS (fun j => worth (M 284 (j + 1)) (M 284 (j + 13))) L (L - (m + 1))).1)), (2, vI ((L : Nat) : Int)), (0, vR 279), (1, vI a)]) 3 dX10_byTurns_137 rfl rfl ⟨by omega, by omega⟩ (by decide) rfl ?_
            refine go_goto (tgt := 34) dX10_byTurns_140 rfl ?_
            refine go_lv [0, 1, 4, 5, 6] rfl ?_
            have hd : L - m = (L - (m + 1)) + 1 := by omega
            have he : (btS (fun j => worth (M 284 (j + 1)) (M 284 (j + 13))) L (L - m)) = ((((worth (M 284 (m + 1)) (M 284 (m + 13))) + (worth (M 284 (m + 1 + 1)) (M 284 (m + 1 + 13)))) - (btS (fun j => worth (M 284 (j + 1)) (M 284 (j + 13))) L (L - (m + 1))).2.1), (btS (fun j => worth (M 284 (j + 1)) (M 284 (j + 13))) L (L - (m + 1))).1, 1) := by
              rw [hd, btS]
              simp only [show L - ((L - (m + 1)) + 1) = m by omega]
              first | (exfalso; omega) | (rw [if_pos (by omega), show L - 1 = m by omega]; done) | (rw [if_neg (by omega), if_pos (by omega)]; done) | (rw [if_neg (by omega), if_neg (by omega)]; done)
            refine go_eq (lv' := [(4, vI ((m : Int) - 1)), (3, vI (btS (fun j => worth (M 284 (j + 1)) (M 284 (j + 13))) L (L - m)).2.2), (2, vI ((L : Nat) : Int)), (0, vR 279), (1, vI a)]) (by rw [he]; rfl) rfl rfl rfl rfl ?_
            refine ih (by omega) _ ((hs.up (by omega)).up (by omega)) (by rw [he]; exact up2_same) (fun _ => by rw [he]; exact ((up2_ne (by omega)).trans ((up2_ne (by omega)).trans h1)))
        · refine go_iconst dX10_byTurns_110 (by decide) ?_
          refine go_goto (tgt := 115) dX10_byTurns_111 rfl ?_
          refine go_istore_n (lv' := [(3, vI 2), (6, vI (((worth (M 284 (m + 1)) (M 284 (m + 13))) + (worth (M 284 (m + 1 + 1)) (M 284 (m + 1 + 13)))) - (btS (fun j => worth (M 284 (j + 1)) (M 284 (j + 13))) L (L - (m + 1))).2.1)), (5, vI ((worth (M 284 (m + 1)) (M 284 (m + 13))) - (btS (fun j => worth (M 284 (j + 1)) (M 284 (j + 13))) L (L - (m + 1))).1)), (4, vI ((m : Nat) : Int)), (2, vI ((L : Nat) : Int)), (0, vR 279), (1, vI a)]) dX10_byTurns_115 rfl (by decide) rfl ?_
          refine go_aload_n 5 dX10_byTurns_116 rfl rfl ?_
          refine go_getR (r := 299) dX10_byTurns_117 lk10_71.get kd_279 (by omega) rfl (pp_279_36 w) ?_
          refine go_iload 3 dX10_byTurns_120 rfl ?_
          refine go_iload 1 dX10_byTurns_122 rfl ?_
          refine go_iload 2 dX10_byTurns_124 rfl ?_
          refine go_icmp_le (tgt := 134) dX10_byTurns_126 rfl (fun c8 => ?_) (fun c8 => ?_)
          · refine go_iload 2 dX10_byTurns_134 rfl ?_
            refine gx_iastore m dX10_byTurns_136 kd_299 (by omega) ln_299 rfl (by omega) ?_
            refine gx_iinc (v := (((m : Nat) : Int) + (-1))) (lv' := [(4, vI (((m : Nat) : Int) + (-1))), (3, vI 2), (6, vI (((worth (M 284 (m + 1)) (M 284 (m + 13))) + (worth (M 284 (m + 1 + 1)) (M 284 (m + 1 + 13)))) - (btS (fun j => worth (M 284 (j + 1)) (M 284 (j + 13))) L (L - (m + 1))).2.1)), (5, vI ((worth (M 284 (m + 1)) (M 284 (m + 13))) - (btS (fun j => worth (M 284 (j + 1)) (M 284 (j + 13))) L (L - (m + 1))).1)), (2, vI ((L : Nat) : Int)), (0, vR 279), (1, vI a)]) 3 dX10_byTurns_137 rfl rfl ⟨by omega, by omega⟩ (by decide) rfl ?_
            refine go_goto (tgt := 34) dX10_byTurns_140 rfl ?_
            refine go_lv [0, 1, 4, 5, 6] rfl ?_
            have hd : L - m = (L - (m + 1)) + 1 := by omega
            have he : (btS (fun j => worth (M 284 (j + 1)) (M 284 (j + 13))) L (L - m)) = (((worth (M 284 (m + 1)) (M 284 (m + 13))) - (btS (fun j => worth (M 284 (j + 1)) (M 284 (j + 13))) L (L - (m + 1))).1), (btS (fun j => worth (M 284 (j + 1)) (M 284 (j + 13))) L (L - (m + 1))).1, 2) := by
              rw [hd, btS]
              simp only [show L - ((L - (m + 1)) + 1) = m by omega]
              first | (exfalso; omega) | (rw [if_pos (by omega), show L - 1 = m by omega]; done) | (rw [if_neg (by omega), if_pos (by omega)]; done) | (rw [if_neg (by omega), if_neg (by omega)]; done)
            refine go_eq (lv' := [(4, vI ((m : Int) - 1)), (3, vI (btS (fun j => worth (M 284 (j + 1)) (M 284 (j + 13))) L (L - m)).2.2), (2, vI ((L : Nat) : Int)), (0, vR 279), (1, vI a)]) (by rw [he]; rfl) rfl rfl rfl rfl ?_
            refine ih (by omega) _ ((hs.up (by omega)).up (by omega)) (by rw [he]; exact up2_same) (fun _ => by rw [he]; exact ((up2_ne (by omega)).trans ((up2_ne (by omega)).trans h1)))
          · refine go_iload 1 dX10_byTurns_129 rfl ?_
            refine go_goto (tgt := 136) dX10_byTurns_131 rfl ?_
            refine gx_iastore m dX10_byTurns_136 kd_299 (by omega) ln_299 rfl (by omega) ?_
            refine gx_iinc (v := (((m : Nat) : Int) + (-1))) (lv' := [(4, vI (((m : Nat) : Int) + (-1))), (3, vI 2), (6, vI (((worth (M 284 (m + 1)) (M 284 (m + 13))) + (worth (M 284 (m + 1 + 1)) (M 284 (m + 1 + 13)))) - (btS (fun j => worth (M 284 (j + 1)) (M 284 (j + 13))) L (L - (m + 1))).2.1)), (5, vI ((worth (M 284 (m + 1)) (M 284 (m + 13))) - (btS (fun j => worth (M 284 (j + 1)) (M 284 (j + 13))) L (L - (m + 1))).1)), (2, vI ((L : Nat) : Int)), (0, vR 279), (1, vI a)]) 3 dX10_byTurns_137 rfl rfl ⟨by omega, by omega⟩ (by decide) rfl ?_
            refine go_goto (tgt := 34) dX10_byTurns_140 rfl ?_
            refine go_lv [0, 1, 4, 5, 6] rfl ?_
            have hd : L - m = (L - (m + 1)) + 1 := by omega
            have he : (btS (fun j => worth (M 284 (j + 1)) (M 284 (j + 13))) L (L - m)) = ((((worth (M 284 (m + 1)) (M 284 (m + 13))) + (worth (M 284 (m + 1 + 1)) (M 284 (m + 1 + 13)))) - (btS (fun j => worth (M 284 (j + 1)) (M 284 (j + 13))) L (L - (m + 1))).2.1), (btS (fun j => worth (M 284 (j + 1)) (M 284 (j + 13))) L (L - (m + 1))).1, 2) := by
              rw [hd, btS]
              simp only [show L - ((L - (m + 1)) + 1) = m by omega]
              first | (exfalso; omega) | (rw [if_pos (by omega), show L - 1 = m by omega]; done) | (rw [if_neg (by omega), if_pos (by omega)]; done) | (rw [if_neg (by omega), if_neg (by omega)]; done)
            refine go_eq (lv' := [(4, vI ((m : Int) - 1)), (3, vI (btS (fun j => worth (M 284 (j + 1)) (M 284 (j + 13))) L (L - m)).2.2), (2, vI ((L : Nat) : Int)), (0, vR 279), (1, vI a)]) (by rw [he]; rfl) rfl rfl rfl rfl ?_
            refine ih (by omega) _ ((hs.up (by omega)).up (by omega)) (by rw [he]; exact up2_same) (fun _ => by rw [he]; exact ((up2_ne (by omega)).trans ((up2_ne (by omega)).trans h1)))

set_option maxHeartbeats 4000000 in
set_option maxRecDepth 100000 in
theorem ok_X10_byTurns_in {w L : Nat} {a : Int} {M : inm} {Q : Int → Nat → rfm → inm → Prop} (hL : Lay10 M L) (ha : a = 0 ∨ a = 1) (g0 : a = 0 → ∀ M' : inm, Sr M M' → Q ((btS (fun j => worth (M 284 (j + 1)) (M 284 (j + 13))) L L).1 + 1000) 303 (PP w) M') (g1 : a = 1 → ∀ M' : inm, Sr M M' → Q (btS (fun j => worth (M 284 (j + 1)) (M 284 (j + 13))) L L).2.2 303 (PP w) M') : OkI yX10_byTurns cX10_byTurns 7 2 0 0 (some .int) [vR 279, vI a] 303 (PP w) M Q := by
  refine OkI.of (by decide +kernel) (by decide +kernel) (Nat.le_of_ble_eq_true rfl) ?_
  refine go_eq (lv' := [(0, vR 279), (1, vI a)]) rfl rfl rfl rfl rfl ?_
  have hL12 := hL.2.1
  refine go_iload_n 1 dX10_byTurns_0 rfl rfl ?_
  refine go_i2l dX10_byTurns_1 ?_
  refine go_lconst (z := 0) dX10_byTurns_2 (by decide) (by decide) ?_
  refine go_lconst (z := 1) dX10_byTurns_3 (by decide) (by decide) ?_
  refine go_callSI (av := [vL a, vL 0, vL 1]) (st := []) (mc2 := 0) (ms2 := 0) dX10_byTurns_4 cw10_87 (by decide) rfl rfl (Nat.le_of_ble_eq_true rfl) rfl rfl (ok_X10_in (fun _ _ => ?_) (fun h => absurd ⟨by omega, by omega⟩ h))
  refine go_if_ne (tgt := 13) dX10_byTurns_7 rfl (fun c1 => ?_) (fun c1 => ?_)
  · refine go_aload_n 0 dX10_byTurns_13 rfl rfl ?_
    refine go_getR (r := 284) dX10_byTurns_14 lk10_22.get kd_279 (by omega) rfl (pp_279_8 w) ?_
    refine go_iconst dX10_byTurns_17 (by decide) ?_
    refine gx_iaload (v := ((L : Nat) : Int)) 0 dX10_byTurns_18 kd_284 (by omega) ln_284 (by omega) (by omega) hL.1 ?_
    refine go_istore_n (lv' := [(2, vI ((L : Nat) : Int)), (0, vR 279), (1, vI a)]) dX10_byTurns_19 rfl (by decide) rfl ?_
    refine go_aload_n 1 dX10_byTurns_20 rfl rfl ?_
    refine go_getR (r := 299) dX10_byTurns_21 lk10_71.get kd_279 (by omega) rfl (pp_279_36 w) ?_
    refine go_iload_n 0 dX10_byTurns_24 rfl rfl ?_
    refine go_iconst dX10_byTurns_25 (by decide) ?_
    refine gx_iastore L dX10_byTurns_26 kd_299 (by omega) ln_299 rfl (by omega) ?_
    refine go_iconst dX10_byTurns_27 (by decide) ?_
    refine go_istore_n (lv' := [(3, vI 0), (2, vI ((L : Nat) : Int)), (0, vR 279), (1, vI a)]) dX10_byTurns_28 rfl (by decide) rfl ?_
    refine go_iload_n 1 dX10_byTurns_29 rfl rfl ?_
    refine go_iconst dX10_byTurns_30 (by decide) ?_
    refine gx_isub (v := (((L : Nat) : Int) - 1)) dX10_byTurns_31 rfl ⟨by omega, by omega⟩ ?_
    refine go_istore (lv' := [(4, vI (((L : Nat) : Int) - 1)), (3, vI 0), (2, vI ((L : Nat) : Int)), (0, vR 279), (1, vI a)]) dX10_byTurns_32 (by decide) rfl ?_
    refine go_lv [0, 1, 2, 3, 4] rfl ?_
    refine go_eq (lv' := [(4, vI ((L : Int) - 1)), (3, vI (btS (fun j => worth (M 284 (j + 1)) (M 284 (j + 13))) L (L - L)).2.2), (2, vI ((L : Nat) : Int)), (0, vR 279), (1, vI a)]) (by rw [Nat.sub_self]; rfl) rfl rfl rfl rfl ?_
    exact lp_X10_byTurns hL ha g0 g1 L (Nat.le_refl L) _ ((Sr.rf M).up (by omega)) (by rw [Nat.sub_self]; exact up2_same) (fun h => absurd h (by omega))
  · exact absurd c1 (by decide)

set_option maxHeartbeats 4000000 in
set_option maxRecDepth 100000 in
theorem ok_X10_byTurns_out {w : Nat} {a : Int} {M : inm} {Q : Int → Nat → rfm → inm → Prop} (hb : ¬ (a = 0 ∨ a = 1)) (hQ : Q (-1000000002) 303 (PP w) M) : OkI yX10_byTurns cX10_byTurns 7 2 0 0 (some .int) [vR 279, vI a] 303 (PP w) M Q := by
  refine OkI.of (by decide +kernel) (by decide +kernel) (Nat.le_of_ble_eq_true rfl) ?_
  refine go_eq (lv' := [(0, vR 279), (1, vI a)]) rfl rfl rfl rfl rfl ?_
  refine go_iload_n 1 dX10_byTurns_0 rfl rfl ?_
  refine go_i2l dX10_byTurns_1 ?_
  refine go_lconst (z := 0) dX10_byTurns_2 (by decide) (by decide) ?_
  refine go_lconst (z := 1) dX10_byTurns_3 (by decide) (by decide) ?_
  refine go_callSI (av := [vL a, vL 0, vL 1]) (st := []) (mc2 := 0) (ms2 := 0) dX10_byTurns_4 cw10_87 (by decide) rfl rfl (Nat.le_of_ble_eq_true rfl) rfl rfl (ok_X10_in (fun a1 a2 => absurd (And.intro a1 a2) (by omega)) (fun _ => ?_))
  refine go_if_ne (tgt := 13) dX10_byTurns_7 rfl (fun c1 => ?_) (fun c1 => ?_)
  · exact absurd c1 (by decide)
  · refine go_ldc dX10_byTurns_10 ik10_96 (by decide) ?_
    refine go_iret dX10_byTurns_12 rfl rfl ⟨_, rfl, ?_⟩
    exact hQ

theorem envG_congr {g g' : Nat → Int} {s : Int × Int} : ∀ n, (∀ e, e < n → g e = g' e) → fo (envG g) n s = fo (envG g') n s
  | 0, _ => rfl
  | n + 1, h => by
    rw [fo, fo, envG_congr n (fun e he => h e (by omega))]
    simp only [envG]
    rw [h n (by omega)]
set_option maxHeartbeats 4000000 in
set_option maxRecDepth 100000 in
theorem lp_X10_fair76 {w E i : Nat} {a who : Int} {M' : inm} {Q : Int → Nat → rfm → inm → Prop} (hE : M' 279 2 = (E : Int) ∧ 1 ≤ E ∧ E ≤ 5) (hc : Go S0 yX10_fair cX10_fair 6 2 0 0 (some .int) 117 [(5, vI ((E : Nat) : Int)), (4, vI ((argm (fun e => M' 300 e) E : Nat) : Int)), (3, vI ((i : Nat) : Int)), (2, vI who), (0, vR 279), (1, vI a)] [] 303 (PP w) M' (fun v n P M => ∃ z, v = some (vI z) ∧ Q z n P M)) : ∀ (d k : Nat), E < k + d → 1 ≤ k → k ≤ E → Go S0 yX10_fair cX10_fair 6 2 0 0 (some .int) 76 [(5, vI ((k : Nat) : Int)), (4, vI ((argm (fun e => M' 300 e) k : Nat) : Int)), (3, vI ((i : Nat) : Int)), (2, vI who), (0, vR 279), (1, vI a)] [] 303 (PP w) M' (fun v n P M => ∃ z, v = some (vI z) ∧ Q z n P M) := by
  intro d
  induction d with
  | zero => intro k h1 h2 h3; exfalso; omega
  | succ d ih =>
    intro k h1 h2 h3
    have hb := argm_lt (sh := (fun e => M' 300 e)) k
    refine go_iload 0 dX10_fair_76 rfl ?_
    refine go_aload_n 4 dX10_fair_78 rfl rfl ?_
    refine gx_getI (v := ((E : Nat) : Int)) dX10_fair_79 lk10_91.get kd_279 (by omega) rfl hE.1 ?_
    refine go_icmp_ge (tgt := 117) dX10_fair_82 rfl (fun c1 => ?_) (fun c1 => ?_)
    · refine go_lv [0, 1, 2, 3, 4, 5] rfl ?_
      have hk : k = E := by omega
      subst hk
      exact hc
    · refine go_aload_n 4 dX10_fair_85 rfl rfl ?_
      refine go_getR (r := 300) dX10_fair_86 lk10_74.get kd_279 (by omega) rfl (pp_279_37 w) ?_
      refine go_iload 0 dX10_fair_89 rfl ?_
      refine gx_iaload (v := (M' 300 k)) k dX10_fair_91 kd_300 (by omega) ln_300 rfl (by omega) rfl ?_
      refine go_aload_n 4 dX10_fair_92 rfl rfl ?_
      refine go_getR (r := 300) dX10_fair_93 lk10_74.get kd_279 (by omega) rfl (pp_279_37 w) ?_
      refine go_iload 1 dX10_fair_96 rfl ?_
      refine gx_iaload (v := (M' 300 (argm (fun e => M' 300 e) k))) (argm (fun e => M' 300 e) k) dX10_fair_98 kd_300 (by omega) ln_300 rfl (by omega) rfl ?_
      refine go_icmp_ge (tgt := 107) dX10_fair_99 rfl (fun c2 => ?_) (fun c2 => ?_)
      · refine go_iload 1 dX10_fair_107 rfl ?_
        refine go_istore (lv' := [(4, vI ((argm (fun e => M' 300 e) k : Nat) : Int)), (5, vI ((k : Nat) : Int)), (3, vI ((i : Nat) : Int)), (2, vI who), (0, vR 279), (1, vI a)]) dX10_fair_109 (by decide) rfl ?_
        refine gx_iinc (v := ((k + 1 : Nat) : Int)) (lv' := [(5, vI ((k + 1 : Nat) : Int)), (4, vI ((argm (fun e => M' 300 e) k : Nat) : Int)), (3, vI ((i : Nat) : Int)), (2, vI who), (0, vR 279), (1, vI a)]) 1 dX10_fair_111 rfl (by omega) ⟨by omega, by omega⟩ (by decide) rfl ?_
        refine go_goto (tgt := 76) dX10_fair_114 rfl ?_
        have e3 : ((argm (fun e => M' 300 e) k : Nat) : Int) = ((argm (fun e => M' 300 e) (k + 1) : Nat) : Int) := by (rw [argm_s]; first | (rw [if_pos (by assumption)]; done) | (rw [if_pos (by omega)]; done) | (rw [if_neg (by omega)]; done))
        rw [e3]
        exact ih (k + 1) (by omega) (by omega) (by omega)
      · refine go_iload 0 dX10_fair_102 rfl ?_
        refine go_goto (tgt := 109) dX10_fair_104 rfl ?_
        refine go_istore (lv' := [(4, vI ((k : Nat) : Int)), (5, vI ((k : Nat) : Int)), (3, vI ((i : Nat) : Int)), (2, vI who), (0, vR 279), (1, vI a)]) dX10_fair_109 (by decide) rfl ?_
        refine gx_iinc (v := ((k + 1 : Nat) : Int)) (lv' := [(5, vI ((k + 1 : Nat) : Int)), (4, vI ((k : Nat) : Int)), (3, vI ((i : Nat) : Int)), (2, vI who), (0, vR 279), (1, vI a)]) 1 dX10_fair_111 rfl (by omega) ⟨by omega, by omega⟩ (by decide) rfl ?_
        refine go_goto (tgt := 76) dX10_fair_114 rfl ?_
        have e4 : ((k : Nat) : Int) = ((argm (fun e => M' 300 e) (k + 1) : Nat) : Int) := by (rw [argm_s]; first | (rw [if_pos (by assumption)]; done) | (rw [if_pos (by omega)]; done) | (rw [if_neg (by omega)]; done))
        rw [e4]
        exact ih (k + 1) (by omega) (by omega) (by omega)

set_option maxHeartbeats 4000000 in
set_option maxRecDepth 100000 in
theorem lp_X10_fair {w L E : Nat} {a : Int} {M : inm} {Q : Int → Nat → rfm → inm → Prop} (hL : Lay10 M L) (hE : M 279 2 = (E : Int) ∧ 1 ≤ E ∧ E ≤ 5) (hg : ∀ e, e < 5 → 0 ≤ M 284 (e + 29) ∧ M 284 (e + 29) ≤ 9999) (hk : a = -1 ∨ (0 ≤ a ∧ a < (L : Int))) (g1 : a = -1 → ∀ M' : inm, Sr M M' → Q ((fo (envG (fo (shG (fun j => worth (M 284 (j + 1)) (M 284 (j + 13))) E a) L ((fun j => M 284 (j + 29)), -1)).1) E (-1, 1000000)).1 - (fo (envG (fo (shG (fun j => worth (M 284 (j + 1)) (M 284 (j + 13))) E a) L ((fun j => M 284 (j + 29)), -1)).1) E (-1, 1000000)).2) 303 (PP w) M') (g2 : (0 ≤ a ∧ a < (L : Int)) → ∀ M' : inm, Sr M M' → Q (fo (shG (fun j => worth (M 284 (j + 1)) (M 284 (j + 13))) E a) L ((fun j => M 284 (j + 29)), -1)).2 303 (PP w) M') : ∀ d i, L < i + d → i ≤ L → ∀ M' : inm, Sr M M' → (∀ j, j < E → M' 300 j = (fo (shG (fun j => worth (M 284 (j + 1)) (M 284 (j + 13))) E a) i ((fun j => M 284 (j + 29)), -1)).1 j) → Go S0 yX10_fair cX10_fair 6 2 0 0 (some .int) 60 [(3, vI ((i : Nat) : Int)), (2, vI ((fo (shG (fun j => worth (M 284 (j + 1)) (M 284 (j + 13))) E a) i ((fun j => M 284 (j + 29)), -1)).2)), (0, vR 279), (1, vI a)] [] 303 (PP w) M' (fun v n P M => ∃ z, v = some (vI z) ∧ Q z n P M) := by
  have hL12 := hL.2.1
  have hW : ∀ j, j < L → 0 ≤ (fun j => worth (M 284 (j + 1)) (M 284 (j + 13))) j ∧ (fun j => worth (M 284 (j + 1)) (M 284 (j + 13))) j ≤ 40 := (fun j hj => by have h9 := hL.2.2.1 j (by omega); have h8 := worth_in (c := M 284 (j + 1)) h9.1; exact ⟨h8.1, Int.le_trans h8.2 (by have : M 284 (j + 13) ≤ 20 := h9.2; show 2 * M 284 (j + 13) ≤ 40; omega)⟩)
  intro d
  induction d with
  | zero => intro i h1 h2; exfalso; omega
  | succ d ih =>
    intro i h1 h2 M' hs h5
    have hsh := sh_in (W := (fun j => worth (M 284 (j + 1)) (M 284 (j + 13)))) (g := (fun j => M 284 (j + 29))) (E := E) (k := a) hg i (fun j hj => hW j (by omega))
    have hal := argm_lt (sh := (fo (shG (fun j => worth (M 284 (j + 1)) (M 284 (j + 13))) E a) i ((fun j => M 284 (j + 29)), -1)).1) E
    refine go_iload_n 0 dX10_fair_60 rfl rfl ?_
    refine go_aload_n 2 dX10_fair_61 rfl rfl ?_
    refine go_getR (r := 284) dX10_fair_62 lk10_22.get kd_279 (by omega) rfl (pp_279_8 w) ?_
    refine go_iconst dX10_fair_65 (by decide) ?_
    refine gx_iaload (v := ((L : Nat) : Int)) 0 dX10_fair_66 kd_284 (by omega) ln_284 (by omega) (by omega) (((hs 284 0 (Or.inl (by omega))).trans hL.1)) ?_
    refine go_icmp_ge (tgt := 150) dX10_fair_67 rfl (fun c1 => ?_) (fun c1 => ?_)
    · refine go_iload_n 3 dX10_fair_150 rfl rfl ?_
      refine go_iconst dX10_fair_151 (by decide) ?_
      refine go_icmp_ne (tgt := 167) dX10_fair_152 rfl (fun c2 => ?_) (fun c2 => ?_)
      · refine go_iload_n 1 dX10_fair_167 rfl rfl ?_
        refine go_iret dX10_fair_168 rfl rfl ⟨_, rfl, ?_⟩
        first | exact g1 (by omega) M' hs | (rw [show i = L by omega]; exact g2 (by omega) M' hs)
      · refine go_aload_n 2 dX10_fair_155 rfl rfl ?_
        refine go_aload_n 2 dX10_fair_156 rfl rfl ?_
        refine go_getR (r := 300) dX10_fair_157 lk10_74.get kd_279 (by omega) rfl (pp_279_37 w) ?_
        refine go_iconst dX10_fair_160 (by decide) ?_
        refine go_callVI (av := [vR 300, vI 0]) (st := []) (a := 279) (mc2 := 0) (ms2 := 0) dX10_fair_161 cw10_210 (by decide) rfl rfl (Nat.le_of_ble_eq_true rfl) rfl rfl kd_279 ⟨_, _, rfl⟩ (by decide) (by omega) (ok_X10_envyBy_would (M := M') ⟨(hs 279 2 (Or.inl (by omega))).trans hE.1, hE.2.2⟩ (fun e he => by rw [h5 e he]; have := hsh e (by omega); omega) ?_)
        rw [if_neg (by omega), envG_congr (g := fun e => M' 300 e) (g' := (fo (shG (fun j => worth (M 284 (j + 1)) (M 284 (j + 13))) E a) L ((fun j => M 284 (j + 29)), -1)).1) E (fun e he => by rw [h5 e he, show i = L by omega])]
        refine go_goto (tgt := 168) dX10_fair_164 rfl ?_
        refine go_iret dX10_fair_168 rfl rfl ⟨_, rfl, ?_⟩
        first | exact g1 (by omega) M' hs | (rw [show i = L by omega]; exact g2 (by omega) M' hs)
    · refine go_iconst dX10_fair_70 (by decide) ?_
      refine go_istore (lv' := [(4, vI 0), (3, vI ((i : Nat) : Int)), (2, vI ((fo (shG (fun j => worth (M 284 (j + 1)) (M 284 (j + 13))) E a) i ((fun j => M 284 (j + 29)), -1)).2)), (0, vR 279), (1, vI a)]) dX10_fair_71 (by decide) rfl ?_
      refine go_iconst dX10_fair_73 (by decide) ?_
      refine go_istore (lv' := [(5, vI 1), (4, vI 0), (3, vI ((i : Nat) : Int)), (2, vI ((fo (shG (fun j => worth (M 284 (j + 1)) (M 284 (j + 13))) E a) i ((fun j => M 284 (j + 29)), -1)).2)), (0, vR 279), (1, vI a)]) dX10_fair_74 (by decide) rfl ?_
      refine go_lv [0, 1, 2, 3, 4, 5] rfl ?_
      refine go_eq (lv' := [(5, vI 1), (4, vI ((argm (fun e => M' 300 e) 1 : Nat) : Int)), (3, vI ((i : Nat) : Int)), (2, vI ((fo (shG (fun j => worth (M 284 (j + 1)) (M 284 (j + 13))) E a) i ((fun j => M 284 (j + 29)), -1)).2)), (0, vR 279), (1, vI a)]) (by rw [argm_1]; rfl) rfl rfl rfl rfl ?_
      refine lp_X10_fair76 ⟨(hs 279 2 (Or.inl (by omega))).trans hE.1, hE.2⟩ ?_ (E + 1) 1 (by omega) (by omega) (by omega)
      rw [argm_congr (sh' := (fo (shG (fun j => worth (M 284 (j + 1)) (M 284 (j + 13))) E a) i ((fun j => M 284 (j + 29)), -1)).1) E (fun j hj => h5 j (by omega))]
      refine go_aload_n 4 dX10_fair_117 rfl rfl ?_
      refine go_getR (r := 300) dX10_fair_118 lk10_74.get kd_279 (by omega) rfl (pp_279_37 w) ?_
      refine go_iload 1 dX10_fair_121 rfl ?_
      refine go_dup2 dX10_fair_123 rfl rfl ?_
      have f63 := hsh (argm (fo (shG (fun j => worth (M 284 (j + 1)) (M 284 (j + 13))) E a) i ((fun j => M 284 (j + 29)), -1)).1 E) (by omega)
      refine gx_iaload (v := ((fo (shG (fun j => worth (M 284 (j + 1)) (M 284 (j + 13))) E a) i ((fun j => M 284 (j + 29)), -1)).1 (argm (fo (shG (fun j => worth (M 284 (j + 1)) (M 284 (j + 13))) E a) i ((fun j => M 284 (j + 29)), -1)).1 E))) (argm (fo (shG (fun j => worth (M 284 (j + 1)) (M 284 (j + 13))) E a) i ((fun j => M 284 (j + 29)), -1)).1 E) dX10_fair_124 kd_300 (by omega) ln_300 rfl (by omega) ((h5 (argm (fo (shG (fun j => worth (M 284 (j + 1)) (M 284 (j + 13))) E a) i ((fun j => M 284 (j + 29)), -1)).1 E) (by omega))) ?_
      refine go_aload_n 4 dX10_fair_125 rfl rfl ?_
      refine go_iload_n 2 dX10_fair_126 rfl rfl ?_
      refine go_callVI (av := [vI ((i : Nat) : Int)]) (st := [vI ((fo (shG (fun j => worth (M 284 (j + 1)) (M 284 (j + 13))) E a) i ((fun j => M 284 (j + 29)), -1)).1 (argm (fo (shG (fun j => worth (M 284 (j + 1)) (M 284 (j + 13))) E a) i ((fun j => M 284 (j + 29)), -1)).1 E)), vI ((argm (fo (shG (fun j => worth (M 284 (j + 1)) (M 284 (j + 13))) E a) i ((fun j => M 284 (j + 29)), -1)).1 E : Nat) : Int), vR 300]) (a := 279) (mc2 := 0) (ms2 := 0) dX10_fair_127 cw10_224 (by decide) rfl rfl (Nat.le_of_ble_eq_true rfl) rfl rfl kd_279 ⟨_, _, rfl⟩ (by decide) (by omega) (ok_X10_worthOf (k := i) (M := M') (by omega) (by rw [hs 284 (i + 13) (Or.inl (by omega))]; exact hL.2.2.1 i (by omega)) ?_)
      rw [hs 284 (i + 1) (Or.inl (by omega)), hs 284 (i + 13) (Or.inl (by omega))]
      have g64 := worth_in (c := M 284 (i + 1)) (hL.2.2.1 i (by omega)).1
      have g64b := hL.2.2.1 i (by omega)
      refine gx_iadd (v := (((fo (shG (fun j => worth (M 284 (j + 1)) (M 284 (j + 13))) E a) i ((fun j => M 284 (j + 29)), -1)).1 (argm (fo (shG (fun j => worth (M 284 (j + 1)) (M 284 (j + 13))) E a) i ((fun j => M 284 (j + 29)), -1)).1 E)) + (worth (M 284 (i + 1)) (M 284 (i + 13))))) dX10_fair_130 rfl ⟨by omega, by omega⟩ ?_
      refine gx_iastore (argm (fo (shG (fun j => worth (M 284 (j + 1)) (M 284 (j + 13))) E a) i ((fun j => M 284 (j + 29)), -1)).1 E) dX10_fair_131 kd_300 (by omega) ln_300 rfl (by omega) ?_
      refine go_iload_n 2 dX10_fair_132 rfl rfl ?_
      refine go_iload_n 5 dX10_fair_133 rfl rfl ?_
      refine go_icmp_ne (tgt := 142) dX10_fair_134 rfl (fun c65 => ?_) (fun c65 => ?_)
      · refine go_iload_n 3 dX10_fair_142 rfl rfl ?_
        refine go_istore_n (lv' := [(2, vI ((fo (shG (fun j => worth (M 284 (j + 1)) (M 284 (j + 13))) E a) i ((fun j => M 284 (j + 29)), -1)).2)), (5, vI ((E : Nat) : Int)), (4, vI ((argm (fo (shG (fun j => worth (M 284 (j + 1)) (M 284 (j + 13))) E a) i ((fun j => M 284 (j + 29)), -1)).1 E : Nat) : Int)), (3, vI ((i : Nat) : Int)), (0, vR 279), (1, vI a)]) dX10_fair_143 rfl (by decide) rfl ?_
        refine gx_iinc (v := ((i + 1 : Nat) : Int)) (lv' := [(3, vI ((i + 1 : Nat) : Int)), (2, vI ((fo (shG (fun j => worth (M 284 (j + 1)) (M 284 (j + 13))) E a) i ((fun j => M 284 (j + 29)), -1)).2)), (5, vI ((E : Nat) : Int)), (4, vI ((argm (fo (shG (fun j => worth (M 284 (j + 1)) (M 284 (j + 13))) E a) i ((fun j => M 284 (j + 29)), -1)).1 E : Nat) : Int)), (0, vR 279), (1, vI a)]) 3 dX10_fair_144 rfl (by omega) ⟨by omega, by omega⟩ (by decide) rfl ?_
        refine go_goto (tgt := 60) dX10_fair_147 rfl ?_
        refine go_lv [0, 1, 4, 5] rfl ?_
        have he : (fo (shG (fun j => worth (M 284 (j + 1)) (M 284 (j + 13))) E a) i ((fun j => M 284 (j + 29)), -1)).2 = (fo (shG (fun j => worth (M 284 (j + 1)) (M 284 (j + 13))) E a) (i + 1) ((fun j => M 284 (j + 29)), -1)).2 := by
          show _ = (if (i : Int) = a then (((argm (fo (shG (fun j => worth (M 284 (j + 1)) (M 284 (j + 13))) E a) i ((fun j => M 284 (j + 29)), -1)).1 E) : Nat) : Int) else (fo (shG (fun j => worth (M 284 (j + 1)) (M 284 (j + 13))) E a) i ((fun j => M 284 (j + 29)), -1)).2)
          first | (rw [if_pos (by omega)]; done) | (rw [if_neg (by omega)]; done)
        rw [he]
        exact ih (i + 1) (by omega) (by omega) _ (hs.up (by omega)) (fun j hj => by show _ = (if j = (argm (fo (shG (fun j => worth (M 284 (j + 1)) (M 284 (j + 13))) E a) i ((fun j => M 284 (j + 29)), -1)).1 E) then (fo (shG (fun j => worth (M 284 (j + 1)) (M 284 (j + 13))) E a) i ((fun j => M 284 (j + 29)), -1)).1 j + worth (M 284 (i + 1)) (M 284 (i + 13)) else (fo (shG (fun j => worth (M 284 (j + 1)) (M 284 (j + 13))) E a) i ((fun j => M 284 (j + 29)), -1)).1 j); by_cases hja : j = (argm (fo (shG (fun j => worth (M 284 (j + 1)) (M 284 (j + 13))) E a) i ((fun j => M 284 (j + 29)), -1)).1 E); (rw [if_pos hja, hja]; exact up2_same); rw [if_neg hja]; exact (up2_ne (by omega)).trans (h5 j hj))
      · refine go_iload 1 dX10_fair_137 rfl ?_
        refine go_goto (tgt := 143) dX10_fair_139 rfl ?_
        refine go_istore_n (lv' := [(2, vI ((argm (fo (shG (fun j => worth (M 284 (j + 1)) (M 284 (j + 13))) E a) i ((fun j => M 284 (j + 29)), -1)).1 E : Nat) : Int)), (5, vI ((E : Nat) : Int)), (4, vI ((argm (fo (shG (fun j => worth (M 284 (j + 1)) (M 284 (j + 13))) E a) i ((fun j => M 284 (j + 29)), -1)).1 E : Nat) : Int)), (3, vI ((i : Nat) : Int)), (0, vR 279), (1, vI a)]) dX10_fair_143 rfl (by decide) rfl ?_
        refine gx_iinc (v := ((i + 1 : Nat) : Int)) (lv' := [(3, vI ((i + 1 : Nat) : Int)), (2, vI ((argm (fo (shG (fun j => worth (M 284 (j + 1)) (M 284 (j + 13))) E a) i ((fun j => M 284 (j + 29)), -1)).1 E : Nat) : Int)), (5, vI ((E : Nat) : Int)), (4, vI ((argm (fo (shG (fun j => worth (M 284 (j + 1)) (M 284 (j + 13))) E a) i ((fun j => M 284 (j + 29)), -1)).1 E : Nat) : Int)), (0, vR 279), (1, vI a)]) 3 dX10_fair_144 rfl (by omega) ⟨by omega, by omega⟩ (by decide) rfl ?_
        refine go_goto (tgt := 60) dX10_fair_147 rfl ?_
        refine go_lv [0, 1, 4, 5] rfl ?_
        have he : ((argm (fo (shG (fun j => worth (M 284 (j + 1)) (M 284 (j + 13))) E a) i ((fun j => M 284 (j + 29)), -1)).1 E : Nat) : Int) = (fo (shG (fun j => worth (M 284 (j + 1)) (M 284 (j + 13))) E a) (i + 1) ((fun j => M 284 (j + 29)), -1)).2 := by
          show _ = (if (i : Int) = a then (((argm (fo (shG (fun j => worth (M 284 (j + 1)) (M 284 (j + 13))) E a) i ((fun j => M 284 (j + 29)), -1)).1 E) : Nat) : Int) else (fo (shG (fun j => worth (M 284 (j + 1)) (M 284 (j + 13))) E a) i ((fun j => M 284 (j + 29)), -1)).2)
          first | (rw [if_pos (by omega)]; done) | (rw [if_neg (by omega)]; done)
        rw [he]
        exact ih (i + 1) (by omega) (by omega) _ (hs.up (by omega)) (fun j hj => by show _ = (if j = (argm (fo (shG (fun j => worth (M 284 (j + 1)) (M 284 (j + 13))) E a) i ((fun j => M 284 (j + 29)), -1)).1 E) then (fo (shG (fun j => worth (M 284 (j + 1)) (M 284 (j + 13))) E a) i ((fun j => M 284 (j + 29)), -1)).1 j + worth (M 284 (i + 1)) (M 284 (i + 13)) else (fo (shG (fun j => worth (M 284 (j + 1)) (M 284 (j + 13))) E a) i ((fun j => M 284 (j + 29)), -1)).1 j); by_cases hja : j = (argm (fo (shG (fun j => worth (M 284 (j + 1)) (M 284 (j + 13))) E a) i ((fun j => M 284 (j + 29)), -1)).1 E); (rw [if_pos hja, hja]; exact up2_same); rw [if_neg hja]; exact (up2_ne (by omega)).trans (h5 j hj))

set_option maxHeartbeats 4000000 in
set_option maxRecDepth 100000 in
theorem lp_X10_fair27 {w L E : Nat} {a : Int} {M : inm} {Q : Int → Nat → rfm → inm → Prop} (hL : Lay10 M L) (hE : M 279 2 = (E : Int) ∧ 1 ≤ E ∧ E ≤ 5) (hg : ∀ e, e < 5 → 0 ≤ M 284 (e + 29) ∧ M 284 (e + 29) ≤ 9999) (hk : a = -1 ∨ (0 ≤ a ∧ a < (L : Int))) (g1 : a = -1 → ∀ M' : inm, Sr M M' → Q ((fo (envG (fo (shG (fun j => worth (M 284 (j + 1)) (M 284 (j + 13))) E a) L ((fun j => M 284 (j + 29)), -1)).1) E (-1, 1000000)).1 - (fo (envG (fo (shG (fun j => worth (M 284 (j + 1)) (M 284 (j + 13))) E a) L ((fun j => M 284 (j + 29)), -1)).1) E (-1, 1000000)).2) 303 (PP w) M') (g2 : (0 ≤ a ∧ a < (L : Int)) → ∀ M' : inm, Sr M M' → Q (fo (shG (fun j => worth (M 284 (j + 1)) (M 284 (j + 13))) E a) L ((fun j => M 284 (j + 29)), -1)).2 303 (PP w) M') : ∀ (d k : Nat), E < k + d → k ≤ E → Go S0 yX10_fair cX10_fair 6 2 0 0 (some .int) 27 [(2, vI ((k : Nat) : Int)), (0, vR 279), (1, vI a)] [] 303 (PP w) (ov M 300 k (fun j => M 284 (j + 29))) (fun v n P M => ∃ z, v = some (vI z) ∧ Q z n P M) := by
  intro d
  induction d with
  | zero => intro k h1 h2; exfalso; omega
  | succ d ih =>
    intro k h1 h2
    refine go_iload_n 0 dX10_fair_27 rfl rfl ?_
    refine go_aload_n 1 dX10_fair_28 rfl rfl ?_
    refine gx_getI (v := ((E : Nat) : Int)) dX10_fair_29 lk10_91.get kd_279 (by omega) rfl (((ov_out (by omega)).trans hE.1)) ?_
    refine go_icmp_ge (tgt := 56) dX10_fair_32 rfl (fun c1 => ?_) (fun c1 => ?_)
    · refine go_iconst dX10_fair_56 (by decide) ?_
      refine go_istore_n (lv' := [(2, vI (-1)), (0, vR 279), (1, vI a)]) dX10_fair_57 rfl (by decide) rfl ?_
      refine go_iconst dX10_fair_58 (by decide) ?_
      refine go_istore_n (lv' := [(3, vI 0), (2, vI (-1)), (0, vR 279), (1, vI a)]) dX10_fair_59 rfl (by decide) rfl ?_
      refine go_lv [0, 1, 2, 3] rfl ?_
      have hkE : k = E := by omega
      subst hkE
      exact lp_X10_fair hL hE hg hk g1 g2 (L + 1) 0 (by omega) (by omega) _ ((Sr.rf M).ov (by omega)) (fun j hj => ov_in hj)
    · refine go_aload_n 1 dX10_fair_35 rfl rfl ?_
      refine go_getR (r := 300) dX10_fair_36 lk10_74.get kd_279 (by omega) rfl (pp_279_37 w) ?_
      refine go_iload_n 0 dX10_fair_39 rfl rfl ?_
      refine go_aload_n 1 dX10_fair_40 rfl rfl ?_
      refine go_getR (r := 284) dX10_fair_41 lk10_22.get kd_279 (by omega) rfl (pp_279_8 w) ?_
      refine go_bipush dX10_fair_44 (by decide) (by decide) ?_
      refine go_iload_n 0 dX10_fair_46 rfl rfl ?_
      refine gx_iadd (v := ((k + 29 : Nat) : Int)) dX10_fair_47 (by omega) ⟨by omega, by omega⟩ ?_
      refine gx_iaload (v := (M 284 (k + 29))) (k + 29) dX10_fair_48 kd_284 (by omega) ln_284 rfl (by omega) ((ov_out (by omega))) ?_
      refine gx_iastore k dX10_fair_49 kd_300 (by omega) ln_300 rfl (by omega) ?_
      refine gx_iinc (v := ((k + 1 : Nat) : Int)) (lv' := [(2, vI ((k + 1 : Nat) : Int)), (0, vR 279), (1, vI a)]) 0 dX10_fair_50 rfl (by omega) ⟨by omega, by omega⟩ (by decide) rfl ?_
      refine go_goto (tgt := 27) dX10_fair_53 rfl ?_
      have e2 : (up2 (ov M 300 k (fun j => M 284 (j + 29))) 300 k (M 284 (k + 29))) = (ov M 300 (k + 1) (fun j => M 284 (j + 29))) := by exact ov_s rfl
      rw [e2]
      exact ih (k + 1) (by omega) (by omega)

set_option maxHeartbeats 4000000 in
set_option maxRecDepth 100000 in
theorem ok_X10_fair {w L E : Nat} {a : Int} {M : inm} {Q : Int → Nat → rfm → inm → Prop} (hL : Lay10 M L) (hE : M 279 2 = (E : Int) ∧ E ≤ 5) (hg : ∀ e, e < 5 → 0 ≤ M 284 (e + 29) ∧ M 284 (e + 29) ≤ 9999) (hb : ¬ a = -1 → ¬ (0 ≤ a ∧ a < (L : Int)) → Q (-1000000001) 303 (PP w) M) (he : (a = -1 ∨ (0 ≤ a ∧ a < (L : Int))) → E = 0 → Q (-1) 303 (PP w) M) (h1 : a = -1 → 1 ≤ E → ∀ M' : inm, Sr M M' → Q ((fo (envG (fo (shG (fun j => worth (M 284 (j + 1)) (M 284 (j + 13))) E a) L ((fun j => M 284 (j + 29)), -1)).1) E (-1, 1000000)).1 - (fo (envG (fo (shG (fun j => worth (M 284 (j + 1)) (M 284 (j + 13))) E a) L ((fun j => M 284 (j + 29)), -1)).1) E (-1, 1000000)).2) 303 (PP w) M') (h2 : (0 ≤ a ∧ a < (L : Int)) → 1 ≤ E → ∀ M' : inm, Sr M M' → Q (fo (shG (fun j => worth (M 284 (j + 1)) (M 284 (j + 13))) E a) L ((fun j => M 284 (j + 29)), -1)).2 303 (PP w) M') : OkI yX10_fair cX10_fair 6 2 0 0 (some .int) [vR 279, vI a] 303 (PP w) M Q := by
  refine OkI.of (by decide +kernel) (by decide +kernel) (Nat.le_of_ble_eq_true rfl) ?_
  refine go_eq (lv' := [(0, vR 279), (1, vI a)]) rfl rfl rfl rfl rfl ?_
  have hE5 := hE.2
  refine go_iload_n 1 dX10_fair_0 rfl rfl ?_
  refine go_iconst dX10_fair_1 (by decide) ?_
  refine go_icmp_eq (tgt := 16) dX10_fair_2 rfl (fun c1 => ?_) (fun c1 => ?_)
  · refine go_aload_n 0 dX10_fair_16 rfl rfl ?_
    refine gx_getI (v := ((E : Nat) : Int)) dX10_fair_17 lk10_91.get kd_279 (by omega) rfl hE.1 ?_
    refine go_if_ne (tgt := 25) dX10_fair_20 rfl (fun c2 => ?_) (fun c2 => ?_)
    · refine go_iconst dX10_fair_25 (by decide) ?_
      refine go_istore_n (lv' := [(2, vI 0), (0, vR 279), (1, vI a)]) dX10_fair_26 rfl (by decide) rfl ?_
      refine go_lv [0, 1, 2] rfl ?_
      refine go_m (M' := ov M 300 0 (fun j => M 284 (j + 29))) ov_0.symm ?_
      exact lp_X10_fair27 hL ⟨hE.1, by omega, hE.2⟩ hg (by omega) (fun q => h1 q (by omega)) (fun q => h2 q (by omega)) (E + 1) 0 (by omega) (by omega)
    · refine go_iconst dX10_fair_23 (by decide) ?_
      refine go_iret dX10_fair_24 rfl rfl ⟨_, rfl, ?_⟩
      first | exact hb (by omega) (by omega) | exact he (by omega) (by omega)
  · refine go_aload_n 0 dX10_fair_5 rfl rfl ?_
    refine go_iload_n 1 dX10_fair_6 rfl rfl ?_
    refine go_callVI (av := [vI a]) (st := []) (a := 279) (mc2 := 0) (ms2 := 0) dX10_fair_7 cw10_220 (by decide) rfl rfl (Nat.le_of_ble_eq_true rfl) rfl rfl kd_279 ⟨_, _, rfl⟩ (by decide) (by omega) (ok_X10_isLayer hL.1 hL.2.1 (fun q1 q2 => ?_) (fun q => ?_))
    · skip
      refine go_if_ne (tgt := 16) dX10_fair_10 rfl (fun c3 => ?_) (fun c3 => ?_)
      · refine go_aload_n 0 dX10_fair_16 rfl rfl ?_
        refine gx_getI (v := ((E : Nat) : Int)) dX10_fair_17 lk10_91.get kd_279 (by omega) rfl hE.1 ?_
        refine go_if_ne (tgt := 25) dX10_fair_20 rfl (fun c4 => ?_) (fun c4 => ?_)
        · refine go_iconst dX10_fair_25 (by decide) ?_
          refine go_istore_n (lv' := [(2, vI 0), (0, vR 279), (1, vI a)]) dX10_fair_26 rfl (by decide) rfl ?_
          refine go_lv [0, 1, 2] rfl ?_
          refine go_m (M' := ov M 300 0 (fun j => M 284 (j + 29))) ov_0.symm ?_
          exact lp_X10_fair27 hL ⟨hE.1, by omega, hE.2⟩ hg (by omega) (fun q => h1 q (by omega)) (fun q => h2 q (by omega)) (E + 1) 0 (by omega) (by omega)
        · refine go_iconst dX10_fair_23 (by decide) ?_
          refine go_iret dX10_fair_24 rfl rfl ⟨_, rfl, ?_⟩
          first | exact hb (by omega) (by omega) | exact he (by omega) (by omega)
      · exact absurd c3 (by decide)
    · skip
      refine go_if_ne (tgt := 16) dX10_fair_10 rfl (fun c5 => ?_) (fun c5 => ?_)
      · exact absurd c5 (by decide)
      · refine go_ldc dX10_fair_13 ik10_223 (by decide) ?_
        refine go_iret dX10_fair_15 rfl rfl ⟨_, rfl, ?_⟩
        first | exact hb (by omega) (by omega) | exact he (by omega) (by omega)

theorem has_v : ∀ s, s < 64 → ∀ t, t < 6 → (s / 2 ^ t) &&& 1 = if inS s t = true then 1 else 0 := by decide +kernel
/-- two of a set that are alike -/
def pB (s : Nat) (f : Nat → Int) (a b : Nat) : Bool := inS s a && inS s b && decide (f a = f b)
theorem pB_t {s a b : Nat} {f : Nat → Int} (h1 : inS s a = true) (h2 : inS s b = true) (h3 : f a = f b) : pB s f a b = true := by
  unfold pB; rw [h1, h2, decide_eq_true h3]; rfl
theorem pB_f1 {s a b : Nat} {f : Nat → Int} (h1 : inS s a = false) : pB s f a b = false := by
  unfold pB; rw [h1]; rfl
theorem pB_f2 {s a b : Nat} {f : Nat → Int} (h2 : inS s b = false) : pB s f a b = false := by
  unfold pB; rw [h2, Bool.and_false]; rfl
theorem pB_f3 {s a b : Nat} {f : Nat → Int} (h3 : ¬ f a = f b) : pB s f a b = false := by
  unfold pB; rw [decide_eq_false h3, Bool.and_false]
def mxG (s : Nat) (f : Nat → Int) (T a : Nat) (g : Int) : Int := max g ((cntTo (pB s f a) T : Nat) : Int)
theorem mx_in {s : Nat} {f : Nat → Int} {T : Nat} (hT : T ≤ 6) : ∀ n, 0 ≤ fo (mxG s f T) n 0 ∧ fo (mxG s f T) n 0 ≤ 6
  | 0 => ⟨Int.le_refl 0, by show (0 : Int) ≤ 6; omega⟩
  | n + 1 => by
    have ih := mx_in (s := s) (f := f) hT n
    have hc := cntTo_le (p := pB s f n) T
    rw [fo, mxG]
    omega
set_option maxHeartbeats 4000000 in
set_option maxRecDepth 100000 in
theorem lp_X10_ask67 {w T s : Nat} {lt : Nat → Nat} {M : inm} {a k : Nat} {mo fw be : Int} {Q : Int → Nat → rfm → inm → Prop} (hT : Tys10 M T lt) (hs6 : s < 64) (ha : a < T) (hc : Go S0 yX10_ask cX10_ask 9 3 0 0 (some .int) 129 [(8, vI ((T : Nat) : Int)), (7, vI ((cntTo (pB s (fun t => kindV lt (fun t k => M 283 (8 * t + k)) t k) a) T : Nat) : Int)), (6, vI ((a : Nat) : Int)), (5, vI mo), (4, vI ((k : Nat) : Int)), (3, vI fw), (2, vI be), (1, vI ((s : Nat) : Int)), (0, vR 279)] [] 303 (PP w) M (fun v n P M => ∃ z, v = some (vI z) ∧ Q z n P M)) : ∀ d b, T < b + d → b ≤ T → Go S0 yX10_ask cX10_ask 9 3 0 0 (some .int) 67 [(8, vI ((b : Nat) : Int)), (7, vI ((cntTo (pB s (fun t => kindV lt (fun t k => M 283 (8 * t + k)) t k) a) b : Nat) : Int)), (6, vI ((a : Nat) : Int)), (5, vI mo), (4, vI ((k : Nat) : Int)), (3, vI fw), (2, vI be), (1, vI ((s : Nat) : Int)), (0, vR 279)] [] 303 (PP w) M (fun v n P M => ∃ z, v = some (vI z) ∧ Q z n P M) := by
  have hT6 := hT.2.1
  intro d
  induction d with
  | zero => intro b h1 h2; exfalso; omega
  | succ d ih =>
    intro b h1 h2
    have hcb := cntTo_le (p := pB s (fun t => kindV lt (fun t k => M 283 (8 * t + k)) t k) a) b
    refine go_iload 0 dX10_ask_67 rfl ?_
    refine go_aload_n 8 dX10_ask_69 rfl rfl ?_
    refine gx_getI (v := ((T : Nat) : Int)) dX10_ask_70 lk10_164.get kd_279 (by omega) rfl hT.1 ?_
    refine go_icmp_ge (tgt := 129) dX10_ask_73 rfl (fun c1 => ?_) (fun c1 => ?_)
    · refine go_lv [0, 1, 2, 3, 4, 5, 6, 7, 8] rfl ?_
      have hk : b = T := by omega
      subst hk
      exact hc
    · refine go_iload 1 dX10_ask_76 rfl ?_
      refine go_iload_n 7 dX10_ask_78 rfl rfl ?_
      refine go_iload 2 dX10_ask_79 rfl ?_
      refine go_callSI (av := [vI ((s : Nat) : Int), vI ((a : Nat) : Int)]) (st := [vI ((cntTo (pB s (fun t => kindV lt (fun t k => M 283 (8 * t + k)) t k) a) b : Nat) : Int)]) (mc2 := 0) (ms2 := 0) dX10_ask_81 cw10_310 (by decide) rfl rfl (Nat.le_of_ble_eq_true rfl) rfl rfl (ok_X10_has (s := s) (k := a) hs6 (by omega) (fun p2 => ?_) (fun p3 => ?_))
      · skip
        refine go_if_eq (tgt := 119) dX10_ask_84 rfl (fun c4 => ?_) (fun c4 => ?_)
        · exact absurd c4 (by decide)
        · refine go_iload_n 7 dX10_ask_87 rfl rfl ?_
          refine go_iload 0 dX10_ask_88 rfl ?_
          refine go_callSI (av := [vI ((s : Nat) : Int), vI ((b : Nat) : Int)]) (st := [vI ((cntTo (pB s (fun t => kindV lt (fun t k => M 283 (8 * t + k)) t k) a) b : Nat) : Int)]) (mc2 := 0) (ms2 := 0) dX10_ask_90 cw10_310 (by decide) rfl rfl (Nat.le_of_ble_eq_true rfl) rfl rfl (ok_X10_has (s := s) (k := b) hs6 (by omega) (fun p5 => ?_) (fun p6 => ?_))
          · skip
            refine go_if_eq (tgt := 119) dX10_ask_93 rfl (fun c7 => ?_) (fun c7 => ?_)
            · exact absurd c7 (by decide)
            · refine go_aload_n 8 dX10_ask_96 rfl rfl ?_
              refine go_iload 2 dX10_ask_97 rfl ?_
              refine go_iload 4 dX10_ask_99 rfl ?_
              refine go_callVI (av := [vI ((a : Nat) : Int), vI ((k : Nat) : Int)]) (st := [vI ((cntTo (pB s (fun t => kindV lt (fun t k => M 283 (8 * t + k)) t k) a) b : Nat) : Int)]) (a := 279) (mc2 := 0) (ms2 := 0) dX10_ask_101 cw10_301 (by decide) rfl rfl (Nat.le_of_ble_eq_true rfl) rfl rfl kd_279 ⟨_, _, rfl⟩ (by decide) (by omega) (ok_X10_kindIn (j := a) (i := k) hT (by omega) ?_)
              refine go_aload_n 8 dX10_ask_104 rfl rfl ?_
              refine go_iload 0 dX10_ask_105 rfl ?_
              refine go_iload 4 dX10_ask_107 rfl ?_
              refine go_callVI (av := [vI ((b : Nat) : Int), vI ((k : Nat) : Int)]) (st := [vI (kindV lt (fun t k => M 283 (8 * t + k)) a k), vI ((cntTo (pB s (fun t => kindV lt (fun t k => M 283 (8 * t + k)) t k) a) b : Nat) : Int)]) (a := 279) (mc2 := 0) (ms2 := 0) dX10_ask_109 cw10_301 (by decide) rfl rfl (Nat.le_of_ble_eq_true rfl) rfl rfl kd_279 ⟨_, _, rfl⟩ (by decide) (by omega) (ok_X10_kindIn (j := b) (i := k) hT (by omega) ?_)
              refine go_icmp_ne (tgt := 119) dX10_ask_112 rfl (fun c8 => ?_) (fun c8 => ?_)
              · refine go_iconst dX10_ask_119 (by decide) ?_
                refine gx_iadd (v := ((cntTo (pB s (fun t => kindV lt (fun t k => M 283 (8 * t + k)) t k) a) b : Nat) : Int)) dX10_ask_120 (by omega) ⟨by omega, by omega⟩ ?_
                refine go_istore (lv' := [(7, vI ((cntTo (pB s (fun t => kindV lt (fun t k => M 283 (8 * t + k)) t k) a) b : Nat) : Int)), (8, vI ((b : Nat) : Int)), (6, vI ((a : Nat) : Int)), (5, vI mo), (4, vI ((k : Nat) : Int)), (3, vI fw), (2, vI be), (1, vI ((s : Nat) : Int)), (0, vR 279)]) dX10_ask_121 (by decide) rfl ?_
                refine gx_iinc (v := ((b + 1 : Nat) : Int)) (lv' := [(8, vI ((b + 1 : Nat) : Int)), (7, vI ((cntTo (pB s (fun t => kindV lt (fun t k => M 283 (8 * t + k)) t k) a) b : Nat) : Int)), (6, vI ((a : Nat) : Int)), (5, vI mo), (4, vI ((k : Nat) : Int)), (3, vI fw), (2, vI be), (1, vI ((s : Nat) : Int)), (0, vR 279)]) 1 dX10_ask_123 rfl (by omega) ⟨by omega, by omega⟩ (by decide) rfl ?_
                refine go_goto (tgt := 67) dX10_ask_126 rfl ?_
                refine go_lv [0, 1, 2, 3, 4, 5, 6, 7, 8] rfl ?_
                have he : cntTo (pB s (fun t => kindV lt (fun t k => M 283 (8 * t + k)) t k) a) b = cntTo (pB s (fun t => kindV lt (fun t k => M 283 (8 * t + k)) t k) a) (b + 1) := by (rw [cntTo]; first | (rw [if_pos (pB_t (by assumption) (by assumption) (by assumption))]; done) | (rw [if_neg (by rw [pB_f1 (by assumption)]; decide)]; rfl) | (rw [if_neg (by rw [pB_f2 (by assumption)]; decide)]; rfl) | (rw [if_neg (by rw [pB_f3 (by assumption)]; decide)]; rfl))
                rw [he]
                exact ih (b + 1) (by omega) (by omega)
              · refine go_iconst dX10_ask_115 (by decide) ?_
                refine go_goto (tgt := 120) dX10_ask_116 rfl ?_
                refine gx_iadd (v := ((cntTo (pB s (fun t => kindV lt (fun t k => M 283 (8 * t + k)) t k) a) b + 1 : Nat) : Int)) dX10_ask_120 (by omega) ⟨by omega, by omega⟩ ?_
                refine go_istore (lv' := [(7, vI ((cntTo (pB s (fun t => kindV lt (fun t k => M 283 (8 * t + k)) t k) a) b + 1 : Nat) : Int)), (8, vI ((b : Nat) : Int)), (6, vI ((a : Nat) : Int)), (5, vI mo), (4, vI ((k : Nat) : Int)), (3, vI fw), (2, vI be), (1, vI ((s : Nat) : Int)), (0, vR 279)]) dX10_ask_121 (by decide) rfl ?_
                refine gx_iinc (v := ((b + 1 : Nat) : Int)) (lv' := [(8, vI ((b + 1 : Nat) : Int)), (7, vI ((cntTo (pB s (fun t => kindV lt (fun t k => M 283 (8 * t + k)) t k) a) b + 1 : Nat) : Int)), (6, vI ((a : Nat) : Int)), (5, vI mo), (4, vI ((k : Nat) : Int)), (3, vI fw), (2, vI be), (1, vI ((s : Nat) : Int)), (0, vR 279)]) 1 dX10_ask_123 rfl (by omega) ⟨by omega, by omega⟩ (by decide) rfl ?_
                refine go_goto (tgt := 67) dX10_ask_126 rfl ?_
                refine go_lv [0, 1, 2, 3, 4, 5, 6, 7, 8] rfl ?_
                have he : cntTo (pB s (fun t => kindV lt (fun t k => M 283 (8 * t + k)) t k) a) b + 1 = cntTo (pB s (fun t => kindV lt (fun t k => M 283 (8 * t + k)) t k) a) (b + 1) := by (rw [cntTo]; first | (rw [if_pos (pB_t (by assumption) (by assumption) (by assumption))]; done) | (rw [if_neg (by rw [pB_f1 (by assumption)]; decide)]; rfl) | (rw [if_neg (by rw [pB_f2 (by assumption)]; decide)]; rfl) | (rw [if_neg (by rw [pB_f3 (by assumption)]; decide)]; rfl))
                rw [he]
                exact ih (b + 1) (by omega) (by omega)
          · skip
            refine go_if_eq (tgt := 119) dX10_ask_93 rfl (fun c9 => ?_) (fun c9 => ?_)
            · refine go_iconst dX10_ask_119 (by decide) ?_
              refine gx_iadd (v := ((cntTo (pB s (fun t => kindV lt (fun t k => M 283 (8 * t + k)) t k) a) b : Nat) : Int)) dX10_ask_120 (by omega) ⟨by omega, by omega⟩ ?_
              refine go_istore (lv' := [(7, vI ((cntTo (pB s (fun t => kindV lt (fun t k => M 283 (8 * t + k)) t k) a) b : Nat) : Int)), (8, vI ((b : Nat) : Int)), (6, vI ((a : Nat) : Int)), (5, vI mo), (4, vI ((k : Nat) : Int)), (3, vI fw), (2, vI be), (1, vI ((s : Nat) : Int)), (0, vR 279)]) dX10_ask_121 (by decide) rfl ?_
              refine gx_iinc (v := ((b + 1 : Nat) : Int)) (lv' := [(8, vI ((b + 1 : Nat) : Int)), (7, vI ((cntTo (pB s (fun t => kindV lt (fun t k => M 283 (8 * t + k)) t k) a) b : Nat) : Int)), (6, vI ((a : Nat) : Int)), (5, vI mo), (4, vI ((k : Nat) : Int)), (3, vI fw), (2, vI be), (1, vI ((s : Nat) : Int)), (0, vR 279)]) 1 dX10_ask_123 rfl (by omega) ⟨by omega, by omega⟩ (by decide) rfl ?_
              refine go_goto (tgt := 67) dX10_ask_126 rfl ?_
              refine go_lv [0, 1, 2, 3, 4, 5, 6, 7, 8] rfl ?_
              have he : cntTo (pB s (fun t => kindV lt (fun t k => M 283 (8 * t + k)) t k) a) b = cntTo (pB s (fun t => kindV lt (fun t k => M 283 (8 * t + k)) t k) a) (b + 1) := by (rw [cntTo]; first | (rw [if_pos (pB_t (by assumption) (by assumption) (by assumption))]; done) | (rw [if_neg (by rw [pB_f1 (by assumption)]; decide)]; rfl) | (rw [if_neg (by rw [pB_f2 (by assumption)]; decide)]; rfl) | (rw [if_neg (by rw [pB_f3 (by assumption)]; decide)]; rfl))
              rw [he]
              exact ih (b + 1) (by omega) (by omega)
            · exact absurd c9 (by decide)
      · skip
        refine go_if_eq (tgt := 119) dX10_ask_84 rfl (fun c10 => ?_) (fun c10 => ?_)
        · refine go_iconst dX10_ask_119 (by decide) ?_
          refine gx_iadd (v := ((cntTo (pB s (fun t => kindV lt (fun t k => M 283 (8 * t + k)) t k) a) b : Nat) : Int)) dX10_ask_120 (by omega) ⟨by omega, by omega⟩ ?_
          refine go_istore (lv' := [(7, vI ((cntTo (pB s (fun t => kindV lt (fun t k => M 283 (8 * t + k)) t k) a) b : Nat) : Int)), (8, vI ((b : Nat) : Int)), (6, vI ((a : Nat) : Int)), (5, vI mo), (4, vI ((k : Nat) : Int)), (3, vI fw), (2, vI be), (1, vI ((s : Nat) : Int)), (0, vR 279)]) dX10_ask_121 (by decide) rfl ?_
          refine gx_iinc (v := ((b + 1 : Nat) : Int)) (lv' := [(8, vI ((b + 1 : Nat) : Int)), (7, vI ((cntTo (pB s (fun t => kindV lt (fun t k => M 283 (8 * t + k)) t k) a) b : Nat) : Int)), (6, vI ((a : Nat) : Int)), (5, vI mo), (4, vI ((k : Nat) : Int)), (3, vI fw), (2, vI be), (1, vI ((s : Nat) : Int)), (0, vR 279)]) 1 dX10_ask_123 rfl (by omega) ⟨by omega, by omega⟩ (by decide) rfl ?_
          refine go_goto (tgt := 67) dX10_ask_126 rfl ?_
          refine go_lv [0, 1, 2, 3, 4, 5, 6, 7, 8] rfl ?_
          have he : cntTo (pB s (fun t => kindV lt (fun t k => M 283 (8 * t + k)) t k) a) b = cntTo (pB s (fun t => kindV lt (fun t k => M 283 (8 * t + k)) t k) a) (b + 1) := by (rw [cntTo]; first | (rw [if_pos (pB_t (by assumption) (by assumption) (by assumption))]; done) | (rw [if_neg (by rw [pB_f1 (by assumption)]; decide)]; rfl) | (rw [if_neg (by rw [pB_f2 (by assumption)]; decide)]; rfl) | (rw [if_neg (by rw [pB_f3 (by assumption)]; decide)]; rfl))
          rw [he]
          exact ih (b + 1) (by omega) (by omega)
        · exact absurd c10 (by decide)

set_option maxHeartbeats 4000000 in
set_option maxRecDepth 100000 in
theorem lp_X10_ask52 {w T s : Nat} {lt : Nat → Nat} {M : inm} {k : Nat} {fw be : Int} {Q : Int → Nat → rfm → inm → Prop} (hT : Tys10 M T lt) (hs6 : s < 64) (hc : Go S0 yX10_ask cX10_ask 9 3 0 0 (some .int) 151 [(6, vI ((T : Nat) : Int)), (5, vI (fo (mxG s (fun t => kindV lt (fun t k => M 283 (8 * t + k)) t k) T) T 0)), (4, vI ((k : Nat) : Int)), (3, vI fw), (2, vI be), (1, vI ((s : Nat) : Int)), (0, vR 279)] [] 303 (PP w) M (fun v n P M => ∃ z, v = some (vI z) ∧ Q z n P M)) : ∀ d a, T < a + d → a ≤ T → Go S0 yX10_ask cX10_ask 9 3 0 0 (some .int) 52 [(6, vI ((a : Nat) : Int)), (5, vI (fo (mxG s (fun t => kindV lt (fun t k => M 283 (8 * t + k)) t k) T) a 0)), (4, vI ((k : Nat) : Int)), (3, vI fw), (2, vI be), (1, vI ((s : Nat) : Int)), (0, vR 279)] [] 303 (PP w) M (fun v n P M => ∃ z, v = some (vI z) ∧ Q z n P M) := by
  have hT6 := hT.2.1
  intro d
  induction d with
  | zero => intro a h1 h2; exfalso; omega
  | succ d ih =>
    intro a h1 h2
    refine go_iload 0 dX10_ask_52 rfl ?_
    refine go_aload_n 6 dX10_ask_54 rfl rfl ?_
    refine gx_getI (v := ((T : Nat) : Int)) dX10_ask_55 lk10_164.get kd_279 (by omega) rfl hT.1 ?_
    refine go_icmp_ge (tgt := 151) dX10_ask_58 rfl (fun c1 => ?_) (fun c1 => ?_)
    · refine go_lv [0, 1, 2, 3, 4, 5, 6] rfl ?_
      have hk : a = T := by omega
      subst hk
      exact hc
    · refine go_iconst dX10_ask_61 (by decide) ?_
      refine go_istore (lv' := [(7, vI 0), (6, vI ((a : Nat) : Int)), (5, vI (fo (mxG s (fun t => kindV lt (fun t k => M 283 (8 * t + k)) t k) T) a 0)), (4, vI ((k : Nat) : Int)), (3, vI fw), (2, vI be), (1, vI ((s : Nat) : Int)), (0, vR 279)]) dX10_ask_62 (by decide) rfl ?_
      refine go_iconst dX10_ask_64 (by decide) ?_
      refine go_istore (lv' := [(8, vI 0), (7, vI 0), (6, vI ((a : Nat) : Int)), (5, vI (fo (mxG s (fun t => kindV lt (fun t k => M 283 (8 * t + k)) t k) T) a 0)), (4, vI ((k : Nat) : Int)), (3, vI fw), (2, vI be), (1, vI ((s : Nat) : Int)), (0, vR 279)]) dX10_ask_65 (by decide) rfl ?_
      refine go_lv [0, 1, 2, 3, 4, 5, 6, 7, 8] rfl ?_
      refine lp_X10_ask67 hT hs6 (by omega) ?_ (T + 1) 0 (by omega) (by omega)
      have hcT := cntTo_le (p := pB s (fun t => kindV lt (fun t k => M 283 (8 * t + k)) t k) a) T
      refine go_iload 1 dX10_ask_129 rfl ?_
      refine go_iload 3 dX10_ask_131 rfl ?_
      refine go_icmp_le (tgt := 141) dX10_ask_133 rfl (fun c42 => ?_) (fun c42 => ?_)
      · refine go_iload 3 dX10_ask_141 rfl ?_
        refine go_istore (lv' := [(5, vI (fo (mxG s (fun t => kindV lt (fun t k => M 283 (8 * t + k)) t k) T) a 0)), (8, vI ((T : Nat) : Int)), (7, vI ((cntTo (pB s (fun t => kindV lt (fun t k => M 283 (8 * t + k)) t k) a) T : Nat) : Int)), (6, vI ((a : Nat) : Int)), (4, vI ((k : Nat) : Int)), (3, vI fw), (2, vI be), (1, vI ((s : Nat) : Int)), (0, vR 279)]) dX10_ask_143 (by decide) rfl ?_
        refine gx_iinc (v := ((a + 1 : Nat) : Int)) (lv' := [(6, vI ((a + 1 : Nat) : Int)), (5, vI (fo (mxG s (fun t => kindV lt (fun t k => M 283 (8 * t + k)) t k) T) a 0)), (8, vI ((T : Nat) : Int)), (7, vI ((cntTo (pB s (fun t => kindV lt (fun t k => M 283 (8 * t + k)) t k) a) T : Nat) : Int)), (4, vI ((k : Nat) : Int)), (3, vI fw), (2, vI be), (1, vI ((s : Nat) : Int)), (0, vR 279)]) 3 dX10_ask_145 rfl (by omega) ⟨by omega, by omega⟩ (by decide) rfl ?_
        refine go_goto (tgt := 52) dX10_ask_148 rfl ?_
        refine go_lv [0, 1, 4, 5, 6, 7, 8] rfl ?_
        have he : (fo (mxG s (fun t => kindV lt (fun t k => M 283 (8 * t + k)) t k) T) a 0) = (fo (mxG s (fun t => kindV lt (fun t k => M 283 (8 * t + k)) t k) T) (a + 1) 0) := by rw [fo, mxG]; omega
        rw [he]
        exact ih (a + 1) (by omega) (by omega)
      · refine go_iload 1 dX10_ask_136 rfl ?_
        refine go_goto (tgt := 143) dX10_ask_138 rfl ?_
        refine go_istore (lv' := [(5, vI ((cntTo (pB s (fun t => kindV lt (fun t k => M 283 (8 * t + k)) t k) a) T : Nat) : Int)), (8, vI ((T : Nat) : Int)), (7, vI ((cntTo (pB s (fun t => kindV lt (fun t k => M 283 (8 * t + k)) t k) a) T : Nat) : Int)), (6, vI ((a : Nat) : Int)), (4, vI ((k : Nat) : Int)), (3, vI fw), (2, vI be), (1, vI ((s : Nat) : Int)), (0, vR 279)]) dX10_ask_143 (by decide) rfl ?_
        refine gx_iinc (v := ((a + 1 : Nat) : Int)) (lv' := [(6, vI ((a + 1 : Nat) : Int)), (5, vI ((cntTo (pB s (fun t => kindV lt (fun t k => M 283 (8 * t + k)) t k) a) T : Nat) : Int)), (8, vI ((T : Nat) : Int)), (7, vI ((cntTo (pB s (fun t => kindV lt (fun t k => M 283 (8 * t + k)) t k) a) T : Nat) : Int)), (4, vI ((k : Nat) : Int)), (3, vI fw), (2, vI be), (1, vI ((s : Nat) : Int)), (0, vR 279)]) 3 dX10_ask_145 rfl (by omega) ⟨by omega, by omega⟩ (by decide) rfl ?_
        refine go_goto (tgt := 52) dX10_ask_148 rfl ?_
        refine go_lv [0, 1, 4, 5, 6, 7, 8] rfl ?_
        have he : ((cntTo (pB s (fun t => kindV lt (fun t k => M 283 (8 * t + k)) t k) a) T : Nat) : Int) = (fo (mxG s (fun t => kindV lt (fun t k => M 283 (8 * t + k)) t k) T) (a + 1) 0) := by rw [fo, mxG]; omega
        rw [he]
        exact ih (a + 1) (by omega) (by omega)

set_option maxHeartbeats 4000000 in
set_option maxRecDepth 100000 in
theorem lp_X10_ask39 {w T s : Nat} {lt : Nat → Nat} {M : inm} {f0 : Int} {Q : Int → Nat → rfm → inm → Prop} (hT : Tys10 M T lt) (hs6 : s < 64) (hQ : Q (fo (qG (fun k => fo (mxG s (fun t => kindV lt (fun t k => M 283 (8 * t + k)) t k) T) T 0)) 8 (-1, f0)).1 303 (PP w) M) : ∀ d k, 8 < k + d → k ≤ 8 → Go S0 yX10_ask cX10_ask 9 3 0 0 (some .int) 39 [(4, vI ((k : Nat) : Int)), (3, vI ((fo (qG (fun k => fo (mxG s (fun t => kindV lt (fun t k => M 283 (8 * t + k)) t k) T) T 0)) k (-1, f0)).2)), (2, vI ((fo (qG (fun k => fo (mxG s (fun t => kindV lt (fun t k => M 283 (8 * t + k)) t k) T) T 0)) k (-1, f0)).1)), (1, vI ((s : Nat) : Int)), (0, vR 279)] [] 303 (PP w) M (fun v n P M => ∃ z, v = some (vI z) ∧ Q z n P M) := by
  have hT6 := hT.2.1
  intro d
  induction d with
  | zero => intro k h1 h2; exfalso; omega
  | succ d ih =>
    intro k h1 h2
    refine go_iload 0 dX10_ask_39 rfl ?_
    refine go_bipush dX10_ask_41 (by decide) (by decide) ?_
    refine go_icmp_ge (tgt := 183) dX10_ask_43 rfl (fun c1 => ?_) (fun c1 => ?_)
    · refine go_iload_n 2 dX10_ask_183 rfl rfl ?_
      refine go_iret dX10_ask_184 rfl rfl ⟨_, rfl, ?_⟩
      have hk : k = 8 := by omega
      subst hk
      exact hQ
    · refine go_iconst dX10_ask_46 (by decide) ?_
      refine go_istore (lv' := [(5, vI 0), (4, vI ((k : Nat) : Int)), (3, vI ((fo (qG (fun k => fo (mxG s (fun t => kindV lt (fun t k => M 283 (8 * t + k)) t k) T) T 0)) k (-1, f0)).2)), (2, vI ((fo (qG (fun k => fo (mxG s (fun t => kindV lt (fun t k => M 283 (8 * t + k)) t k) T) T 0)) k (-1, f0)).1)), (1, vI ((s : Nat) : Int)), (0, vR 279)]) dX10_ask_47 (by decide) rfl ?_
      refine go_iconst dX10_ask_49 (by decide) ?_
      refine go_istore (lv' := [(6, vI 0), (5, vI 0), (4, vI ((k : Nat) : Int)), (3, vI ((fo (qG (fun k => fo (mxG s (fun t => kindV lt (fun t k => M 283 (8 * t + k)) t k) T) T 0)) k (-1, f0)).2)), (2, vI ((fo (qG (fun k => fo (mxG s (fun t => kindV lt (fun t k => M 283 (8 * t + k)) t k) T) T 0)) k (-1, f0)).1)), (1, vI ((s : Nat) : Int)), (0, vR 279)]) dX10_ask_50 (by decide) rfl ?_
      refine go_lv [0, 1, 2, 3, 4, 5, 6] rfl ?_
      refine lp_X10_ask52 hT hs6 ?_ (T + 1) 0 (by omega) (by omega)
      have hmx := mx_in (s := s) (f := (fun t => kindV lt (fun t k => M 283 (8 * t + k)) t k)) (T := T) hT.2.1 T
      refine go_iload 1 dX10_ask_151 rfl ?_
      refine go_iload_n 3 dX10_ask_153 rfl rfl ?_
      refine go_icmp_ge (tgt := 162) dX10_ask_154 rfl (fun c42 => ?_) (fun c42 => ?_)
      · refine go_iload_n 4 dX10_ask_162 rfl rfl ?_
        refine go_istore_n (lv' := [(2, vI ((fo (qG (fun k => fo (mxG s (fun t => kindV lt (fun t k => M 283 (8 * t + k)) t k) T) T 0)) k (-1, f0)).1)), (6, vI ((T : Nat) : Int)), (5, vI (fo (mxG s (fun t => kindV lt (fun t k => M 283 (8 * t + k)) t k) T) T 0)), (4, vI ((k : Nat) : Int)), (3, vI ((fo (qG (fun k => fo (mxG s (fun t => kindV lt (fun t k => M 283 (8 * t + k)) t k) T) T 0)) k (-1, f0)).2)), (1, vI ((s : Nat) : Int)), (0, vR 279)]) dX10_ask_163 rfl (by decide) rfl ?_
        refine go_iload 2 dX10_ask_164 rfl ?_
        refine go_iload_n 4 dX10_ask_166 rfl rfl ?_
        refine go_icmp_ge (tgt := 175) dX10_ask_167 rfl (fun c43 => ?_) (fun c43 => ?_)
        · refine go_iload_n 4 dX10_ask_175 rfl rfl ?_
          refine go_istore_n (lv' := [(3, vI ((fo (qG (fun k => fo (mxG s (fun t => kindV lt (fun t k => M 283 (8 * t + k)) t k) T) T 0)) k (-1, f0)).2)), (2, vI ((fo (qG (fun k => fo (mxG s (fun t => kindV lt (fun t k => M 283 (8 * t + k)) t k) T) T 0)) k (-1, f0)).1)), (6, vI ((T : Nat) : Int)), (5, vI (fo (mxG s (fun t => kindV lt (fun t k => M 283 (8 * t + k)) t k) T) T 0)), (4, vI ((k : Nat) : Int)), (1, vI ((s : Nat) : Int)), (0, vR 279)]) dX10_ask_176 rfl (by decide) rfl ?_
          refine gx_iinc (v := ((k + 1 : Nat) : Int)) (lv' := [(4, vI ((k + 1 : Nat) : Int)), (3, vI ((fo (qG (fun k => fo (mxG s (fun t => kindV lt (fun t k => M 283 (8 * t + k)) t k) T) T 0)) k (-1, f0)).2)), (2, vI ((fo (qG (fun k => fo (mxG s (fun t => kindV lt (fun t k => M 283 (8 * t + k)) t k) T) T 0)) k (-1, f0)).1)), (6, vI ((T : Nat) : Int)), (5, vI (fo (mxG s (fun t => kindV lt (fun t k => M 283 (8 * t + k)) t k) T) T 0)), (1, vI ((s : Nat) : Int)), (0, vR 279)]) 4 dX10_ask_177 rfl (by omega) ⟨by omega, by omega⟩ (by decide) rfl ?_
          refine go_goto (tgt := 39) dX10_ask_180 rfl ?_
          refine go_lv [0, 1, 2, 5, 6] rfl ?_
          have he : (fo (qG (fun k => fo (mxG s (fun t => kindV lt (fun t k => M 283 (8 * t + k)) t k) T) T 0)) (k + 1) (-1, f0)) = ((fo (qG (fun k => fo (mxG s (fun t => kindV lt (fun t k => M 283 (8 * t + k)) t k) T) T 0)) k (-1, f0)).1, (fo (qG (fun k => fo (mxG s (fun t => kindV lt (fun t k => M 283 (8 * t + k)) t k) T) T 0)) k (-1, f0)).2) := by
            rw [fo, qG]
            first | (exfalso; omega) | (rw [if_pos (by assumption)]; done) | (rw [if_pos (by omega)]; done) | (rw [if_neg (by omega)]; done)
          refine go_eq (lv' := [(4, vI (((k + 1) : Nat) : Int)), (3, vI ((fo (qG (fun k => fo (mxG s (fun t => kindV lt (fun t k => M 283 (8 * t + k)) t k) T) T 0)) (k + 1) (-1, f0)).2)), (2, vI ((fo (qG (fun k => fo (mxG s (fun t => kindV lt (fun t k => M 283 (8 * t + k)) t k) T) T 0)) (k + 1) (-1, f0)).1)), (1, vI ((s : Nat) : Int)), (0, vR 279)]) (by rw [he]; rfl) rfl rfl rfl rfl ?_
          exact ih (k + 1) (by omega) (by omega)
        · refine go_iload 2 dX10_ask_170 rfl ?_
          refine go_goto (tgt := 176) dX10_ask_172 rfl ?_
          refine go_istore_n (lv' := [(3, vI (fo (mxG s (fun t => kindV lt (fun t k => M 283 (8 * t + k)) t k) T) T 0)), (2, vI ((fo (qG (fun k => fo (mxG s (fun t => kindV lt (fun t k => M 283 (8 * t + k)) t k) T) T 0)) k (-1, f0)).1)), (6, vI ((T : Nat) : Int)), (5, vI (fo (mxG s (fun t => kindV lt (fun t k => M 283 (8 * t + k)) t k) T) T 0)), (4, vI ((k : Nat) : Int)), (1, vI ((s : Nat) : Int)), (0, vR 279)]) dX10_ask_176 rfl (by decide) rfl ?_
          refine gx_iinc (v := ((k + 1 : Nat) : Int)) (lv' := [(4, vI ((k + 1 : Nat) : Int)), (3, vI (fo (mxG s (fun t => kindV lt (fun t k => M 283 (8 * t + k)) t k) T) T 0)), (2, vI ((fo (qG (fun k => fo (mxG s (fun t => kindV lt (fun t k => M 283 (8 * t + k)) t k) T) T 0)) k (-1, f0)).1)), (6, vI ((T : Nat) : Int)), (5, vI (fo (mxG s (fun t => kindV lt (fun t k => M 283 (8 * t + k)) t k) T) T 0)), (1, vI ((s : Nat) : Int)), (0, vR 279)]) 4 dX10_ask_177 rfl (by omega) ⟨by omega, by omega⟩ (by decide) rfl ?_
          refine go_goto (tgt := 39) dX10_ask_180 rfl ?_
          refine go_lv [0, 1, 2, 5, 6] rfl ?_
          have he : (fo (qG (fun k => fo (mxG s (fun t => kindV lt (fun t k => M 283 (8 * t + k)) t k) T) T 0)) (k + 1) (-1, f0)) = ((fo (qG (fun k => fo (mxG s (fun t => kindV lt (fun t k => M 283 (8 * t + k)) t k) T) T 0)) k (-1, f0)).1, (fo (mxG s (fun t => kindV lt (fun t k => M 283 (8 * t + k)) t k) T) T 0)) := by
            rw [fo, qG]
            first | (exfalso; omega) | (rw [if_pos (by assumption)]; done) | (rw [if_pos (by omega)]; done) | (rw [if_neg (by omega)]; done)
          refine go_eq (lv' := [(4, vI (((k + 1) : Nat) : Int)), (3, vI ((fo (qG (fun k => fo (mxG s (fun t => kindV lt (fun t k => M 283 (8 * t + k)) t k) T) T 0)) (k + 1) (-1, f0)).2)), (2, vI ((fo (qG (fun k => fo (mxG s (fun t => kindV lt (fun t k => M 283 (8 * t + k)) t k) T) T 0)) (k + 1) (-1, f0)).1)), (1, vI ((s : Nat) : Int)), (0, vR 279)]) (by rw [he]; rfl) rfl rfl rfl rfl ?_
          exact ih (k + 1) (by omega) (by omega)
      · refine go_iload 2 dX10_ask_157 rfl ?_
        refine go_goto (tgt := 163) dX10_ask_159 rfl ?_
        refine go_istore_n (lv' := [(2, vI ((k : Nat) : Int)), (6, vI ((T : Nat) : Int)), (5, vI (fo (mxG s (fun t => kindV lt (fun t k => M 283 (8 * t + k)) t k) T) T 0)), (4, vI ((k : Nat) : Int)), (3, vI ((fo (qG (fun k => fo (mxG s (fun t => kindV lt (fun t k => M 283 (8 * t + k)) t k) T) T 0)) k (-1, f0)).2)), (1, vI ((s : Nat) : Int)), (0, vR 279)]) dX10_ask_163 rfl (by decide) rfl ?_
        refine go_iload 2 dX10_ask_164 rfl ?_
        refine go_iload_n 4 dX10_ask_166 rfl rfl ?_
        refine go_icmp_ge (tgt := 175) dX10_ask_167 rfl (fun c44 => ?_) (fun c44 => ?_)
        · refine go_iload_n 4 dX10_ask_175 rfl rfl ?_
          refine go_istore_n (lv' := [(3, vI ((fo (qG (fun k => fo (mxG s (fun t => kindV lt (fun t k => M 283 (8 * t + k)) t k) T) T 0)) k (-1, f0)).2)), (2, vI ((k : Nat) : Int)), (6, vI ((T : Nat) : Int)), (5, vI (fo (mxG s (fun t => kindV lt (fun t k => M 283 (8 * t + k)) t k) T) T 0)), (4, vI ((k : Nat) : Int)), (1, vI ((s : Nat) : Int)), (0, vR 279)]) dX10_ask_176 rfl (by decide) rfl ?_
          refine gx_iinc (v := ((k + 1 : Nat) : Int)) (lv' := [(4, vI ((k + 1 : Nat) : Int)), (3, vI ((fo (qG (fun k => fo (mxG s (fun t => kindV lt (fun t k => M 283 (8 * t + k)) t k) T) T 0)) k (-1, f0)).2)), (2, vI ((k : Nat) : Int)), (6, vI ((T : Nat) : Int)), (5, vI (fo (mxG s (fun t => kindV lt (fun t k => M 283 (8 * t + k)) t k) T) T 0)), (1, vI ((s : Nat) : Int)), (0, vR 279)]) 4 dX10_ask_177 rfl (by omega) ⟨by omega, by omega⟩ (by decide) rfl ?_
          refine go_goto (tgt := 39) dX10_ask_180 rfl ?_
          refine go_lv [0, 1, 2, 5, 6] rfl ?_
          have he : (fo (qG (fun k => fo (mxG s (fun t => kindV lt (fun t k => M 283 (8 * t + k)) t k) T) T 0)) (k + 1) (-1, f0)) = (((k : Nat) : Int), (fo (qG (fun k => fo (mxG s (fun t => kindV lt (fun t k => M 283 (8 * t + k)) t k) T) T 0)) k (-1, f0)).2) := by
            rw [fo, qG]
            first | (exfalso; omega) | (rw [if_pos (by assumption)]; done) | (rw [if_pos (by omega)]; done) | (rw [if_neg (by omega)]; done)
          refine go_eq (lv' := [(4, vI (((k + 1) : Nat) : Int)), (3, vI ((fo (qG (fun k => fo (mxG s (fun t => kindV lt (fun t k => M 283 (8 * t + k)) t k) T) T 0)) (k + 1) (-1, f0)).2)), (2, vI ((fo (qG (fun k => fo (mxG s (fun t => kindV lt (fun t k => M 283 (8 * t + k)) t k) T) T 0)) (k + 1) (-1, f0)).1)), (1, vI ((s : Nat) : Int)), (0, vR 279)]) (by rw [he]; rfl) rfl rfl rfl rfl ?_
          exact ih (k + 1) (by omega) (by omega)
        · refine go_iload 2 dX10_ask_170 rfl ?_
          refine go_goto (tgt := 176) dX10_ask_172 rfl ?_
          refine go_istore_n (lv' := [(3, vI (fo (mxG s (fun t => kindV lt (fun t k => M 283 (8 * t + k)) t k) T) T 0)), (2, vI ((k : Nat) : Int)), (6, vI ((T : Nat) : Int)), (5, vI (fo (mxG s (fun t => kindV lt (fun t k => M 283 (8 * t + k)) t k) T) T 0)), (4, vI ((k : Nat) : Int)), (1, vI ((s : Nat) : Int)), (0, vR 279)]) dX10_ask_176 rfl (by decide) rfl ?_
          refine gx_iinc (v := ((k + 1 : Nat) : Int)) (lv' := [(4, vI ((k + 1 : Nat) : Int)), (3, vI (fo (mxG s (fun t => kindV lt (fun t k => M 283 (8 * t + k)) t k) T) T 0)), (2, vI ((k : Nat) : Int)), (6, vI ((T : Nat) : Int)), (5, vI (fo (mxG s (fun t => kindV lt (fun t k => M 283 (8 * t + k)) t k) T) T 0)), (1, vI ((s : Nat) : Int)), (0, vR 279)]) 4 dX10_ask_177 rfl (by omega) ⟨by omega, by omega⟩ (by decide) rfl ?_
          refine go_goto (tgt := 39) dX10_ask_180 rfl ?_
          refine go_lv [0, 1, 2, 5, 6] rfl ?_
          have he : (fo (qG (fun k => fo (mxG s (fun t => kindV lt (fun t k => M 283 (8 * t + k)) t k) T) T 0)) (k + 1) (-1, f0)) = (((k : Nat) : Int), (fo (mxG s (fun t => kindV lt (fun t k => M 283 (8 * t + k)) t k) T) T 0)) := by
            rw [fo, qG]
            first | (exfalso; omega) | (rw [if_pos (by assumption)]; done) | (rw [if_pos (by omega)]; done) | (rw [if_neg (by omega)]; done)
          refine go_eq (lv' := [(4, vI (((k + 1) : Nat) : Int)), (3, vI ((fo (qG (fun k => fo (mxG s (fun t => kindV lt (fun t k => M 283 (8 * t + k)) t k) T) T 0)) (k + 1) (-1, f0)).2)), (2, vI ((fo (qG (fun k => fo (mxG s (fun t => kindV lt (fun t k => M 283 (8 * t + k)) t k) T) T 0)) (k + 1) (-1, f0)).1)), (1, vI ((s : Nat) : Int)), (0, vR 279)]) (by rw [he]; rfl) rfl rfl rfl rfl ?_
          exact ih (k + 1) (by omega) (by omega)

set_option maxHeartbeats 4000000 in
set_option maxRecDepth 100000 in
theorem lp_X10_ask12 {w T s : Nat} {lt : Nat → Nat} {M : inm} {Q : Int → Nat → rfm → inm → Prop} (hT : Tys10 M T lt) (hs6 : s < 64) (hQ : Q (fo (qG (fun k => fo (mxG s (fun t => kindV lt (fun t k => M 283 (8 * t + k)) t k) T) T 0)) 8 (-1, ((cntTo (inS s) T : Nat) : Int))).1 303 (PP w) M) : ∀ (d k : Nat), T < k + d → k ≤ T → Go S0 yX10_ask cX10_ask 9 3 0 0 (some .int) 12 [(4, vI ((k : Nat) : Int)), (3, vI ((cntTo (inS s) k : Nat) : Int)), (2, vI (-1)), (1, vI ((s : Nat) : Int)), (0, vR 279)] [] 303 (PP w) M (fun v n P M => ∃ z, v = some (vI z) ∧ Q z n P M) := by
  have hT6 := hT.2.1
  intro d
  induction d with
  | zero => intro k h1 h2; exfalso; omega
  | succ d ih =>
    intro k h1 h2
    have hcb := cntTo_le (p := inS s) k
    have hb1 := fun h : k < 6 => has_v s hs6 k h
    have hb2 : (s / 2 ^ k) &&& 1 ≤ 1 := Nat.and_le_right
    refine go_iload 0 dX10_ask_12 rfl ?_
    refine go_aload_n 4 dX10_ask_14 rfl rfl ?_
    refine gx_getI (v := ((T : Nat) : Int)) dX10_ask_15 lk10_164.get kd_279 (by omega) rfl hT.1 ?_
    refine go_icmp_ge (tgt := 36) dX10_ask_18 rfl (fun c1 => ?_) (fun c1 => ?_)
    · refine go_iconst dX10_ask_36 (by decide) ?_
      refine go_istore (lv' := [(4, vI 0), (3, vI ((cntTo (inS s) k : Nat) : Int)), (2, vI (-1)), (1, vI ((s : Nat) : Int)), (0, vR 279)]) dX10_ask_37 (by decide) rfl ?_
      refine go_lv [0, 1, 2, 3, 4] rfl ?_
      have hk : k = T := by omega
      subst hk
      exact lp_X10_ask39 (f0 := ((cntTo (inS s) k : Nat) : Int)) hT hs6 hQ 9 0 (by omega) (by omega)
    · refine go_iload_n 1 dX10_ask_21 rfl rfl ?_
      refine go_iload_n 3 dX10_ask_22 rfl rfl ?_
      refine go_iload 0 dX10_ask_23 rfl ?_
      refine gx_ishr (a := s) (b := k) dX10_ask_25 (by omega) (by omega) (by omega) ?_
      refine go_iconst dX10_ask_26 (by decide) ?_
      refine gx_iand (a := (s / 2 ^ k)) (b := 1) dX10_ask_27 (by omega) (by omega) ?_
      refine gx_iadd (v := (((cntTo (inS s) k) + ((s / 2 ^ k) &&& 1) : Nat) : Int)) dX10_ask_28 (by omega) ⟨by omega, by omega⟩ ?_
      refine go_istore_n (lv' := [(3, vI (((cntTo (inS s) k) + ((s / 2 ^ k) &&& 1) : Nat) : Int)), (4, vI ((k : Nat) : Int)), (2, vI (-1)), (1, vI ((s : Nat) : Int)), (0, vR 279)]) dX10_ask_29 rfl (by decide) rfl ?_
      refine gx_iinc (v := ((k + 1 : Nat) : Int)) (lv' := [(4, vI ((k + 1 : Nat) : Int)), (3, vI (((cntTo (inS s) k) + ((s / 2 ^ k) &&& 1) : Nat) : Int)), (2, vI (-1)), (1, vI ((s : Nat) : Int)), (0, vR 279)]) 1 dX10_ask_30 rfl (by omega) ⟨by omega, by omega⟩ (by decide) rfl ?_
      refine go_goto (tgt := 12) dX10_ask_33 rfl ?_
      have e2 : (((cntTo (inS s) k) + ((s / 2 ^ k) &&& 1) : Nat) : Int) = ((cntTo (inS s) (k + 1) : Nat) : Int) := by (rw [hb1 (by omega), cntTo])
      rw [e2]
      exact ih (k + 1) (by omega) (by omega)

set_option maxHeartbeats 4000000 in
set_option maxRecDepth 100000 in
theorem ok_X10_ask {w T c : Nat} {lt gk : Nat → Nat} {M : inm} {Q : Int → Nat → rfm → inm → Prop} (hT : Tys10 M T lt) (hc : M 279 13 = (c : Int)) (h6 : c ≤ 6) (hg : ∀ i, i < c → M 287 i = (gk i : Int)) (hgi : ∀ i, i < c → M 289 i = 0 ∨ M 289 i = 1) (hQ : Q (fo (qG (fun k => fo (mxG (orTo (setG (fun t => allTo (fun i => decide ((if kindV lt (fun t k => M 283 (8 * t + k)) t (gk i) = M 288 i then 1 else 0) = M 289 i)) c)) T) (fun t => kindV lt (fun t k => M 283 (8 * t + k)) t k) T) T 0)) 8 (-1, ((cntTo (inS (orTo (setG (fun t => allTo (fun i => decide ((if kindV lt (fun t k => M 283 (8 * t + k)) t (gk i) = M 288 i then 1 else 0) = M 289 i)) c)) T)) T : Nat) : Int))).1 303 (PP w) M) : OkI yX10_ask cX10_ask 9 3 0 0 (some .int) [vR 279] 303 (PP w) M Q := by
  refine OkI.of (by decide +kernel) (by decide +kernel) (Nat.le_of_ble_eq_true rfl) ?_
  refine go_eq (lv' := [(0, vR 279)]) rfl rfl rfl rfl rfl ?_
  refine go_aload_n 0 dX10_ask_0 rfl rfl ?_
  refine go_callVI (av := []) (st := []) (a := 279) (mc2 := 0) (ms2 := 0) dX10_ask_1 cw10_307 (by decide) rfl rfl (Nat.le_of_ble_eq_true rfl) rfl rfl kd_279 ⟨_, _, rfl⟩ (by decide) (by omega) (ok_X10_couldBe hT hc h6 hg hgi ?_)
  have hs6 := setG_lt (p := fun t => allTo (fun i => decide ((if kindV lt (fun t k => M 283 (8 * t + k)) t (gk i) = M 288 i then 1 else 0) = M 289 i)) c) (T := T) hT.2.1
  refine go_istore_n (lv' := [(1, vI ((orTo (setG (fun t => allTo (fun i => decide ((if kindV lt (fun t k => M 283 (8 * t + k)) t (gk i) = M 288 i then 1 else 0) = M 289 i)) c)) T : Nat) : Int)), (0, vR 279)]) dX10_ask_4 rfl (by decide) rfl ?_
  refine go_iconst dX10_ask_5 (by decide) ?_
  refine go_istore_n (lv' := [(2, vI (-1)), (1, vI ((orTo (setG (fun t => allTo (fun i => decide ((if kindV lt (fun t k => M 283 (8 * t + k)) t (gk i) = M 288 i then 1 else 0) = M 289 i)) c)) T : Nat) : Int)), (0, vR 279)]) dX10_ask_6 rfl (by decide) rfl ?_
  refine go_iconst dX10_ask_7 (by decide) ?_
  refine go_istore_n (lv' := [(3, vI 0), (2, vI (-1)), (1, vI ((orTo (setG (fun t => allTo (fun i => decide ((if kindV lt (fun t k => M 283 (8 * t + k)) t (gk i) = M 288 i then 1 else 0) = M 289 i)) c)) T : Nat) : Int)), (0, vR 279)]) dX10_ask_8 rfl (by decide) rfl ?_
  refine go_iconst dX10_ask_9 (by decide) ?_
  refine go_istore (lv' := [(4, vI 0), (3, vI 0), (2, vI (-1)), (1, vI ((orTo (setG (fun t => allTo (fun i => decide ((if kindV lt (fun t k => M 283 (8 * t + k)) t (gk i) = M 288 i then 1 else 0) = M 289 i)) c)) T : Nat) : Int)), (0, vR 279)]) dX10_ask_10 (by decide) rfl ?_
  refine go_lv [0, 1, 2, 3, 4] rfl ?_
  exact lp_X10_ask12 (s := (orTo (setG (fun t => allTo (fun i => decide ((if kindV lt (fun t k => M 283 (8 * t + k)) t (gk i) = M 288 i then 1 else 0) = M 289 i)) c)) T)) hT hs6 hQ (T + 1) 0 (by omega) (by omega)

