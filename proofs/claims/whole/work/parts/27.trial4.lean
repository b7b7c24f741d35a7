/-! ===== Trial: questions ===== -/
def inS (s t : Nat) : Bool := decide (¬ s &&& 2 ^ t = 0)
/-- the place of a KIND among the counts; none: the last -/
def plc (c : Int) : Nat := if 0 ≤ c ∧ c < 5 then c.toNat else 5
theorem plc_lt (c : Int) : plc c < 6 := by unfold plc; split <;> omega
def alk (s : Nat) (f : Nat → Int) (p t : Nat) : Bool := inS s t && decide (plc (f t) = p)
def galG (s : Nat) (f : Nat → Int) (t : Nat) (g : Int) : Int := if inS s t = true then max g ((cntTo (alk s f (plc (f t))) (t + 1) : Nat) : Int) else g
theorem gal_in {s : Nat} {f : Nat → Int} : ∀ n, n ≤ 6 → 0 ≤ fo (galG s f) n 0 ∧ fo (galG s f) n 0 ≤ 6
  | 0, _ => ⟨Int.le_refl 0, by show (0 : Int) ≤ 6; omega⟩
  | n + 1, hn => by
    have ih := gal_in (s := s) (f := f) n (by omega)
    have hc := cntTo_le (p := alk s f (plc (f n))) (n + 1)
    rw [fo, galG]
    split <;> omega
def qG (f : Nat → Int) (k : Nat) (s : Int × Int) : Int × Int := if f k < s.2 then ((k : Int), f k) else s
set_option maxHeartbeats 4000000 in
set_option maxRecDepth 100000 in
theorem lp_X8_greatestAlike_29 {v w T s k : Nat} {lt : Nat → Nat} {M : inm} {Q : Int → Nat → rfm → inm → Prop} (hv : Cs v) (hT : Tys M v T lt) (hs6 : s < 64) (hQ : ∀ M' : inm, Sc M M' → Q (fo (galG s (fun t => kindV lt (fun t k => M (v + 7 + t) k) t k)) T 0) 303 (PP w) M') : ∀ d i, T < i + d → i ≤ T → ∀ M' : inm, Sc M M' → (∀ p, p < 6 → M' 277 p = ((cntTo (alk s (fun t => kindV lt (fun t k => M (v + 7 + t) k) t k) p) i : Nat) : Int)) → Go S0 yX8_greatestAlike cX8_greatestAlike 8 1 0 0 (some .int) 29 [(5, vI ((i : Nat) : Int)), (4, vI (fo (galG s (fun t => kindV lt (fun t k => M (v + 7 + t) k) t k)) i 0)), (0, vR 273), (1, vR v), (2, vI ((s : Nat) : Int)), (3, vI ((k : Nat) : Int))] [] 303 (PP w) M' (fun v n P M => ∃ z, v = some (vI z) ∧ Q z n P M) := by
  have hT6 := hT.2.1
  have hvsc := hv.sc
  intro d
  induction d with
  | zero => intro i h1 h2; exfalso; omega
  | succ d ih =>
    intro i h1 h2 M' hs h5
    have hTs := hT.sc hv hs
    have hga := gal_in (s := s) (f := (fun t => kindV lt (fun t k => M (v + 7 + t) k) t k)) i (by omega)
    have hc := fun p => cntTo_le (p := alk s (fun t => kindV lt (fun t k => M (v + 7 + t) k) t k) p) i
    refine go_iload 0 dX8_greatestAlike_29 rfl ?_
    refine go_aload_n 3 dX8_greatestAlike_31 rfl rfl ?_
    refine gx_getI (v := ((T : Nat) : Int)) dX8_greatestAlike_32 lk8_77.get hv.k0 hv.l0 rfl hTs.1 ?_
    refine go_icmp_ge (tgt := 106) dX8_greatestAlike_35 rfl (fun c1 => ?_) (fun c1 => ?_)
    · refine go_iload 1 dX8_greatestAlike_106 rfl ?_
      refine go_iret dX8_greatestAlike_108 rfl rfl ⟨_, rfl, ?_⟩
      rw [show i = T by omega] at h5 ⊢
      exact hQ M' hs
    · refine go_iload_n 4 dX8_greatestAlike_38 rfl rfl ?_
      refine go_iconst dX8_greatestAlike_39 (by decide) ?_
      refine go_iload 0 dX8_greatestAlike_40 rfl ?_
      refine gx_shl i dX8_greatestAlike_42 (by omega) (by omega) rfl ?_
      refine gx_iand (a := s) (b := (2 ^ i)) dX8_greatestAlike_43 (by omega) (by omega) ?_
      refine go_if_eq (tgt := 100) dX8_greatestAlike_44 rfl (fun c2 => ?_) (fun c2 => ?_)
      · refine gx_iinc (v := ((i + 1 : Nat) : Int)) (lv' := [(5, vI ((i + 1 : Nat) : Int)), (4, vI (fo (galG s (fun t => kindV lt (fun t k => M (v + 7 + t) k) t k)) i 0)), (0, vR 273), (1, vR v), (2, vI ((s : Nat) : Int)), (3, vI ((k : Nat) : Int))]) 0 dX8_greatestAlike_100 rfl (by omega) ⟨by omega, by omega⟩ (by decide) rfl ?_
        refine go_goto (tgt := 29) dX8_greatestAlike_103 rfl ?_
        refine go_lv [0, 1, 2, 3, 4, 5] rfl ?_
        have hin : inS s i = false := decide_eq_false (fun q => q (by omega))
        have he : (fo (galG s (fun t => kindV lt (fun t k => M (v + 7 + t) k) t k)) i 0) = (fo (galG s (fun t => kindV lt (fun t k => M (v + 7 + t) k) t k)) (i + 1) 0) := by rw [fo, galG, if_neg (by rw [hin]; decide)]
        rw [he]
        exact ih (i + 1) (by omega) (by omega) M' hs (fun p hp => by rw [cntTo, if_neg (by rw [alk, hin, Bool.false_and]; decide)]; exact h5 p hp)
      · refine go_aload_n 3 dX8_greatestAlike_47 rfl rfl ?_
        refine go_iload 0 dX8_greatestAlike_48 rfl ?_
        refine go_iload_n 5 dX8_greatestAlike_50 rfl rfl ?_
        refine go_callVI (av := [vI ((i : Nat) : Int), vI ((k : Nat) : Int)]) (st := []) (a := v) (mc2 := 0) (ms2 := 0) dX8_greatestAlike_51 cw8_82 (by decide) rfl rfl (Nat.le_of_ble_eq_true rfl) rfl rfl hv.k0 ⟨_, _, rfl⟩ (by decide) hv.l0 (ok_X1_kindOfType (t := i) (k := k) (M := M') hv hTs (by omega) ?_)
        rw [show kindV lt (fun t k => M' (v + 7 + t) k) i k = kindV lt (fun t k => M (v + 7 + t) k) i k by unfold kindV; simp only [hs (v + 7 + i) k (Or.inl (by omega))]]
        have hkd := hc (plc (kindV lt (fun t k => M (v + 7 + t) k) i k))
        refine go_istore (lv' := [(6, vI (kindV lt (fun t k => M (v + 7 + t) k) i k)), (5, vI ((i : Nat) : Int)), (4, vI (fo (galG s (fun t => kindV lt (fun t k => M (v + 7 + t) k) t k)) i 0)), (0, vR 273), (1, vR v), (2, vI ((s : Nat) : Int)), (3, vI ((k : Nat) : Int))]) dX8_greatestAlike_54 (by decide) rfl ?_
        refine go_iload 0 dX8_greatestAlike_56 rfl ?_
        refine go_if_lt (tgt := 72) dX8_greatestAlike_58 rfl (fun c3 => ?_) (fun c3 => ?_)
        · refine go_iconst dX8_greatestAlike_72 (by decide) ?_
          refine go_istore (lv' := [(7, vI 5), (6, vI (kindV lt (fun t k => M (v + 7 + t) k) i k)), (5, vI ((i : Nat) : Int)), (4, vI (fo (galG s (fun t => kindV lt (fun t k => M (v + 7 + t) k) t k)) i 0)), (0, vR 273), (1, vR v), (2, vI ((s : Nat) : Int)), (3, vI ((k : Nat) : Int))]) dX8_greatestAlike_73 (by decide) rfl ?_
          refine go_aload_n 4 dX8_greatestAlike_75 rfl rfl ?_
          refine go_getR (r := 277) dX8_greatestAlike_76 lk8_21.get kd_273 (by omega) rfl (pp_273_3 w) ?_
          refine go_iload 0 dX8_greatestAlike_79 rfl ?_
          refine go_dup2 dX8_greatestAlike_81 rfl rfl ?_
          have f4 := hc 5
          refine gx_iaload (v := ((cntTo (alk s (fun t => kindV lt (fun t k => M (v + 7 + t) k) t k) 5) i : Nat) : Int)) 5 dX8_greatestAlike_82 kd_277 (by omega) ln_277 (by omega) (by omega) ((h5 5 (by omega))) ?_
          refine go_iconst dX8_greatestAlike_83 (by decide) ?_
          refine gx_iadd (v := ((cntTo (alk s (fun t => kindV lt (fun t k => M (v + 7 + t) k) t k) 5) i + 1 : Nat) : Int)) dX8_greatestAlike_84 (by omega) ⟨by omega, by omega⟩ ?_
          refine gx_iastore 5 dX8_greatestAlike_85 kd_277 (by omega) ln_277 (by omega) (by omega) ?_
          refine go_iload 3 dX8_greatestAlike_86 rfl ?_
          refine go_aload_n 4 dX8_greatestAlike_88 rfl rfl ?_
          refine go_getR (r := 277) dX8_greatestAlike_89 lk8_21.get kd_273 (by omega) rfl (pp_273_3 w) ?_
          refine go_iload 0 dX8_greatestAlike_92 rfl ?_
          have f5 := hc 5
          refine gx_iaload (v := ((cntTo (alk s (fun t => kindV lt (fun t k => M (v + 7 + t) k) t k) 5) i + 1 : Nat) : Int)) 5 dX8_greatestAlike_94 kd_277 (by omega) ln_277 (by omega) (by omega) up2_same ?_
          refine gx_max (v := (max (fo (galG s (fun t => kindV lt (fun t k => M (v + 7 + t) k) t k)) i 0) ((cntTo (alk s (fun t => kindV lt (fun t k => M (v + 7 + t) k) t k) 5) i + 1 : Nat) : Int))) dX8_greatestAlike_95 mm8_51 (by decide) (Nat.le_of_ble_eq_true rfl) rfl ?_
          refine go_istore (lv' := [(4, vI (max (fo (galG s (fun t => kindV lt (fun t k => M (v + 7 + t) k) t k)) i 0) ((cntTo (alk s (fun t => kindV lt (fun t k => M (v + 7 + t) k) t k) 5) i + 1 : Nat) : Int))), (7, vI 5), (6, vI (kindV lt (fun t k => M (v + 7 + t) k) i k)), (5, vI ((i : Nat) : Int)), (0, vR 273), (1, vR v), (2, vI ((s : Nat) : Int)), (3, vI ((k : Nat) : Int))]) dX8_greatestAlike_98 (by decide) rfl ?_
          refine gx_iinc (v := ((i + 1 : Nat) : Int)) (lv' := [(5, vI ((i + 1 : Nat) : Int)), (4, vI (max (fo (galG s (fun t => kindV lt (fun t k => M (v + 7 + t) k) t k)) i 0) ((cntTo (alk s (fun t => kindV lt (fun t k => M (v + 7 + t) k) t k) 5) i + 1 : Nat) : Int))), (7, vI 5), (6, vI (kindV lt (fun t k => M (v + 7 + t) k) i k)), (0, vR 273), (1, vR v), (2, vI ((s : Nat) : Int)), (3, vI ((k : Nat) : Int))]) 3 dX8_greatestAlike_100 rfl (by omega) ⟨by omega, by omega⟩ (by decide) rfl ?_
          refine go_goto (tgt := 29) dX8_greatestAlike_103 rfl ?_
          refine go_lv [0, 1, 4, 5, 6, 7] rfl ?_
          have hin : inS s i = true := decide_eq_true (by omega)
          have hpl : plc (kindV lt (fun t k => M (v + 7 + t) k) i k) = 5 := by unfold plc; first | (rw [if_pos ⟨by omega, by omega⟩]; done) | (rw [if_pos ⟨by omega, by omega⟩]; omega) | (rw [if_neg (by omega)]; done)
          have hcs : cntTo (alk s (fun t => kindV lt (fun t k => M (v + 7 + t) k) t k) 5) (i + 1) = cntTo (alk s (fun t => kindV lt (fun t k => M (v + 7 + t) k) t k) 5) i + 1 := by rw [cntTo, if_pos (by rw [alk, hin, Bool.true_and]; exact decide_eq_true hpl)]
          have he : (max (fo (galG s (fun t => kindV lt (fun t k => M (v + 7 + t) k) t k)) i 0) ((cntTo (alk s (fun t => kindV lt (fun t k => M (v + 7 + t) k) t k) 5) i + 1 : Nat) : Int)) = (fo (galG s (fun t => kindV lt (fun t k => M (v + 7 + t) k) t k)) (i + 1) 0) := by rw [fo, galG, if_pos hin]; show _ = max _ ((cntTo (alk s (fun t => kindV lt (fun t k => M (v + 7 + t) k) t k) (plc (kindV lt (fun t k => M (v + 7 + t) k) i k))) (i + 1) : Nat) : Int); rw [hpl, hcs]; try omega
          rw [he]
          exact ih (i + 1) (by omega) (by omega) _ (hs.up (by omega)) (fun p hp => by by_cases hpj : p = 5; (rw [hpj, hcs]; exact up2_same.trans (by omega)); rw [cntTo, if_neg (by rw [alk, hin, Bool.true_and, decide_eq_true_eq]; intro q; exact hpj (q.symm.trans hpl))]; exact (up2_ne (by omega)).trans (h5 p hp))
        · refine go_iload 0 dX8_greatestAlike_61 rfl ?_
          refine go_iconst dX8_greatestAlike_63 (by decide) ?_
          refine go_icmp_ge (tgt := 72) dX8_greatestAlike_64 rfl (fun c6 => ?_) (fun c6 => ?_)
          · refine go_iconst dX8_greatestAlike_72 (by decide) ?_
            refine go_istore (lv' := [(7, vI 5), (6, vI (kindV lt (fun t k => M (v + 7 + t) k) i k)), (5, vI ((i : Nat) : Int)), (4, vI (fo (galG s (fun t => kindV lt (fun t k => M (v + 7 + t) k) t k)) i 0)), (0, vR 273), (1, vR v), (2, vI ((s : Nat) : Int)), (3, vI ((k : Nat) : Int))]) dX8_greatestAlike_73 (by decide) rfl ?_
            refine go_aload_n 4 dX8_greatestAlike_75 rfl rfl ?_
            refine go_getR (r := 277) dX8_greatestAlike_76 lk8_21.get kd_273 (by omega) rfl (pp_273_3 w) ?_
            refine go_iload 0 dX8_greatestAlike_79 rfl ?_
            refine go_dup2 dX8_greatestAlike_81 rfl rfl ?_
            have f7 := hc 5
            refine gx_iaload (v := ((cntTo (alk s (fun t => kindV lt (fun t k => M (v + 7 + t) k) t k) 5) i : Nat) : Int)) 5 dX8_greatestAlike_82 kd_277 (by omega) ln_277 (by omega) (by omega) ((h5 5 (by omega))) ?_
            refine go_iconst dX8_greatestAlike_83 (by decide) ?_
            refine gx_iadd (v := ((cntTo (alk s (fun t => kindV lt (fun t k => M (v + 7 + t) k) t k) 5) i + 1 : Nat) : Int)) dX8_greatestAlike_84 (by omega) ⟨by omega, by omega⟩ ?_
            refine gx_iastore 5 dX8_greatestAlike_85 kd_277 (by omega) ln_277 (by omega) (by omega) ?_
            refine go_iload 3 dX8_greatestAlike_86 rfl ?_
            refine go_aload_n 4 dX8_greatestAlike_88 rfl rfl ?_
            refine go_getR (r := 277) dX8_greatestAlike_89 lk8_21.get kd_273 (by omega) rfl (pp_273_3 w) ?_
            refine go_iload 0 dX8_greatestAlike_92 rfl ?_
            have f8 := hc 5
            refine gx_iaload (v := ((cntTo (alk s (fun t => kindV lt (fun t k => M (v + 7 + t) k) t k) 5) i + 1 : Nat) : Int)) 5 dX8_greatestAlike_94 kd_277 (by omega) ln_277 (by omega) (by omega) up2_same ?_
            refine gx_max (v := (max (fo (galG s (fun t => kindV lt (fun t k => M (v + 7 + t) k) t k)) i 0) ((cntTo (alk s (fun t => kindV lt (fun t k => M (v + 7 + t) k) t k) 5) i + 1 : Nat) : Int))) dX8_greatestAlike_95 mm8_51 (by decide) (Nat.le_of_ble_eq_true rfl) rfl ?_
            refine go_istore (lv' := [(4, vI (max (fo (galG s (fun t => kindV lt (fun t k => M (v + 7 + t) k) t k)) i 0) ((cntTo (alk s (fun t => kindV lt (fun t k => M (v + 7 + t) k) t k) 5) i + 1 : Nat) : Int))), (7, vI 5), (6, vI (kindV lt (fun t k => M (v + 7 + t) k) i k)), (5, vI ((i : Nat) : Int)), (0, vR 273), (1, vR v), (2, vI ((s : Nat) : Int)), (3, vI ((k : Nat) : Int))]) dX8_greatestAlike_98 (by decide) rfl ?_
            refine gx_iinc (v := ((i + 1 : Nat) : Int)) (lv' := [(5, vI ((i + 1 : Nat) : Int)), (4, vI (max (fo (galG s (fun t => kindV lt (fun t k => M (v + 7 + t) k) t k)) i 0) ((cntTo (alk s (fun t => kindV lt (fun t k => M (v + 7 + t) k) t k) 5) i + 1 : Nat) : Int))), (7, vI 5), (6, vI (kindV lt (fun t k => M (v + 7 + t) k) i k)), (0, vR 273), (1, vR v), (2, vI ((s : Nat) : Int)), (3, vI ((k : Nat) : Int))]) 3 dX8_greatestAlike_100 rfl (by omega) ⟨by omega, by omega⟩ (by decide) rfl ?_
            refine go_goto (tgt := 29) dX8_greatestAlike_103 rfl ?_
            refine go_lv [0, 1, 4, 5, 6, 7] rfl ?_
            have hin : inS s i = true := decide_eq_true (by omega)
            have hpl : plc (kindV lt (fun t k => M (v + 7 + t) k) i k) = 5 := by unfold plc; first | (rw [if_pos ⟨by omega, by omega⟩]; done) | (rw [if_pos ⟨by omega, by omega⟩]; omega) | (rw [if_neg (by omega)]; done)
            have hcs : cntTo (alk s (fun t => kindV lt (fun t k => M (v + 7 + t) k) t k) 5) (i + 1) = cntTo (alk s (fun t => kindV lt (fun t k => M (v + 7 + t) k) t k) 5) i + 1 := by rw [cntTo, if_pos (by rw [alk, hin, Bool.true_and]; exact decide_eq_true hpl)]
            have he : (max (fo (galG s (fun t => kindV lt (fun t k => M (v + 7 + t) k) t k)) i 0) ((cntTo (alk s (fun t => kindV lt (fun t k => M (v + 7 + t) k) t k) 5) i + 1 : Nat) : Int)) = (fo (galG s (fun t => kindV lt (fun t k => M (v + 7 + t) k) t k)) (i + 1) 0) := by rw [fo, galG, if_pos hin]; show _ = max _ ((cntTo (alk s (fun t => kindV lt (fun t k => M (v + 7 + t) k) t k) (plc (kindV lt (fun t k => M (v + 7 + t) k) i k))) (i + 1) : Nat) : Int); rw [hpl, hcs]; try omega
            rw [he]
            exact ih (i + 1) (by omega) (by omega) _ (hs.up (by omega)) (fun p hp => by by_cases hpj : p = 5; (rw [hpj, hcs]; exact up2_same.trans (by omega)); rw [cntTo, if_neg (by rw [alk, hin, Bool.true_and, decide_eq_true_eq]; intro q; exact hpj (q.symm.trans hpl))]; exact (up2_ne (by omega)).trans (h5 p hp))
          · refine go_iload 0 dX8_greatestAlike_67 rfl ?_
            refine go_goto (tgt := 73) dX8_greatestAlike_69 rfl ?_
            refine go_istore (lv' := [(7, vI (kindV lt (fun t k => M (v + 7 + t) k) i k)), (6, vI (kindV lt (fun t k => M (v + 7 + t) k) i k)), (5, vI ((i : Nat) : Int)), (4, vI (fo (galG s (fun t => kindV lt (fun t k => M (v + 7 + t) k) t k)) i 0)), (0, vR 273), (1, vR v), (2, vI ((s : Nat) : Int)), (3, vI ((k : Nat) : Int))]) dX8_greatestAlike_73 (by decide) rfl ?_
            refine go_aload_n 4 dX8_greatestAlike_75 rfl rfl ?_
            refine go_getR (r := 277) dX8_greatestAlike_76 lk8_21.get kd_273 (by omega) rfl (pp_273_3 w) ?_
            refine go_iload 0 dX8_greatestAlike_79 rfl ?_
            refine go_dup2 dX8_greatestAlike_81 rfl rfl ?_
            have f9 := hc (((kindV lt (fun t k => M (v + 7 + t) k) i k)).toNat)
            refine gx_iaload (v := ((cntTo (alk s (fun t => kindV lt (fun t k => M (v + 7 + t) k) t k) (((kindV lt (fun t k => M (v + 7 + t) k) i k)).toNat)) i : Nat) : Int)) (((kindV lt (fun t k => M (v + 7 + t) k) i k)).toNat) dX8_greatestAlike_82 kd_277 (by omega) ln_277 (by omega) (by omega) ((h5 (((kindV lt (fun t k => M (v + 7 + t) k) i k)).toNat) (by omega))) ?_
            refine go_iconst dX8_greatestAlike_83 (by decide) ?_
            refine gx_iadd (v := ((cntTo (alk s (fun t => kindV lt (fun t k => M (v + 7 + t) k) t k) (((kindV lt (fun t k => M (v + 7 + t) k) i k)).toNat)) i + 1 : Nat) : Int)) dX8_greatestAlike_84 (by omega) ⟨by omega, by omega⟩ ?_
            refine gx_iastore (((kindV lt (fun t k => M (v + 7 + t) k) i k)).toNat) dX8_greatestAlike_85 kd_277 (by omega) ln_277 (by omega) (by omega) ?_
            refine go_iload 3 dX8_greatestAlike_86 rfl ?_
            refine go_aload_n 4 dX8_greatestAlike_88 rfl rfl ?_
            refine go_getR (r := 277) dX8_greatestAlike_89 lk8_21.get kd_273 (by omega) rfl (pp_273_3 w) ?_
            refine go_iload 0 dX8_greatestAlike_92 rfl ?_
            have f10 := hc (((kindV lt (fun t k => M (v + 7 + t) k) i k)).toNat)
            refine gx_iaload (v := ((cntTo (alk s (fun t => kindV lt (fun t k => M (v + 7 + t) k) t k) (((kindV lt (fun t k => M (v + 7 + t) k) i k)).toNat)) i + 1 : Nat) : Int)) (((kindV lt (fun t k => M (v + 7 + t) k) i k)).toNat) dX8_greatestAlike_94 kd_277 (by omega) ln_277 (by omega) (by omega) up2_same ?_
            refine gx_max (v := (max (fo (galG s (fun t => kindV lt (fun t k => M (v + 7 + t) k) t k)) i 0) ((cntTo (alk s (fun t => kindV lt (fun t k => M (v + 7 + t) k) t k) (((kindV lt (fun t k => M (v + 7 + t) k) i k)).toNat)) i + 1 : Nat) : Int))) dX8_greatestAlike_95 mm8_51 (by decide) (Nat.le_of_ble_eq_true rfl) rfl ?_
            refine go_istore (lv' := [(4, vI (max (fo (galG s (fun t => kindV lt (fun t k => M (v + 7 + t) k) t k)) i 0) ((cntTo (alk s (fun t => kindV lt (fun t k => M (v + 7 + t) k) t k) (((kindV lt (fun t k => M (v + 7 + t) k) i k)).toNat)) i + 1 : Nat) : Int))), (7, vI (kindV lt (fun t k => M (v + 7 + t) k) i k)), (6, vI (kindV lt (fun t k => M (v + 7 + t) k) i k)), (5, vI ((i : Nat) : Int)), (0, vR 273), (1, vR v), (2, vI ((s : Nat) : Int)), (3, vI ((k : Nat) : Int))]) dX8_greatestAlike_98 (by decide) rfl ?_
            refine gx_iinc (v := ((i + 1 : Nat) : Int)) (lv' := [(5, vI ((i + 1 : Nat) : Int)), (4, vI (max (fo (galG s (fun t => kindV lt (fun t k => M (v + 7 + t) k) t k)) i 0) ((cntTo (alk s (fun t => kindV lt (fun t k => M (v + 7 + t) k) t k) (((kindV lt (fun t k => M (v + 7 + t) k) i k)).toNat)) i + 1 : Nat) : Int))), (7, vI (kindV lt (fun t k => M (v + 7 + t) k) i k)), (6, vI (kindV lt (fun t k => M (v + 7 + t) k) i k)), (0, vR 273), (1, vR v), (2, vI ((s : Nat) : Int)), (3, vI ((k : Nat) : Int))]) 3 dX8_greatestAlike_100 rfl (by omega) ⟨by omega, by omega⟩ (by decide) rfl ?_
            refine go_goto (tgt := 29) dX8_greatestAlike_103 rfl ?_
            refine go_lv [0, 1, 4, 5, 6, 7] rfl ?_
            have hin : inS s i = true := decide_eq_true (by omega)
            have hpl : plc (kindV lt (fun t k => M (v + 7 + t) k) i k) = ((kindV lt (fun t k => M (v + 7 + t) k) i k)).toNat := by unfold plc; first | (rw [if_pos ⟨by omega, by omega⟩]; done) | (rw [if_pos ⟨by omega, by omega⟩]; omega) | (rw [if_neg (by omega)]; done)
            have hcs : cntTo (alk s (fun t => kindV lt (fun t k => M (v + 7 + t) k) t k) (((kindV lt (fun t k => M (v + 7 + t) k) i k)).toNat)) (i + 1) = cntTo (alk s (fun t => kindV lt (fun t k => M (v + 7 + t) k) t k) (((kindV lt (fun t k => M (v + 7 + t) k) i k)).toNat)) i + 1 := by rw [cntTo, if_pos (by rw [alk, hin, Bool.true_and]; exact decide_eq_true hpl)]
            have he : (max (fo (galG s (fun t => kindV lt (fun t k => M (v + 7 + t) k) t k)) i 0) ((cntTo (alk s (fun t => kindV lt (fun t k => M (v + 7 + t) k) t k) (((kindV lt (fun t k => M (v + 7 + t) k) i k)).toNat)) i + 1 : Nat) : Int)) = (fo (galG s (fun t => kindV lt (fun t k => M (v + 7 + t) k) t k)) (i + 1) 0) := by rw [fo, galG, if_pos hin]; show _ = max _ ((cntTo (alk s (fun t => kindV lt (fun t k => M (v + 7 + t) k) t k) (plc (kindV lt (fun t k => M (v + 7 + t) k) i k))) (i + 1) : Nat) : Int); rw [hpl, hcs]; try omega
            rw [he]
            exact ih (i + 1) (by omega) (by omega) _ (hs.up (by omega)) (fun p hp => by by_cases hpj : p = ((kindV lt (fun t k => M (v + 7 + t) k) i k)).toNat; (rw [hpj, hcs]; exact up2_same.trans (by omega)); rw [cntTo, if_neg (by rw [alk, hin, Bool.true_and, decide_eq_true_eq]; intro q; exact hpj (q.symm.trans hpl))]; exact (up2_ne (by omega)).trans (h5 p hp))

set_option maxHeartbeats 4000000 in
set_option maxRecDepth 100000 in
theorem lp_X8_greatestAlike_3 {v w T s k : Nat} {lt : Nat → Nat} {M : inm} {Q : Int → Nat → rfm → inm → Prop} (hv : Cs v) (hT : Tys M v T lt) (hs6 : s < 64) (hQ : ∀ M' : inm, Sc M M' → Q (fo (galG s (fun t => kindV lt (fun t k => M (v + 7 + t) k) t k)) T 0) 303 (PP w) M') : ∀ d i, 6 < i + d → i ≤ 6 → ∀ M' : inm, Sc M M' → (∀ p, p < i → M' 277 p = 0) → Go S0 yX8_greatestAlike cX8_greatestAlike 8 1 0 0 (some .int) 3 [(4, vI ((i : Nat) : Int)), (0, vR 273), (1, vR v), (2, vI ((s : Nat) : Int)), (3, vI ((k : Nat) : Int))] [] 303 (PP w) M' (fun v n P M => ∃ z, v = some (vI z) ∧ Q z n P M) := by
  have hT6 := hT.2.1
  have hvsc := hv.sc
  intro d
  induction d with
  | zero => intro i h1 h2; exfalso; omega
  | succ d ih =>
    intro i h1 h2 M' hs h5
    refine go_iload 0 dX8_greatestAlike_3 rfl ?_
    refine go_iconst dX8_greatestAlike_5 (by decide) ?_
    refine go_icmp_gt (tgt := 23) dX8_greatestAlike_6 rfl (fun c1 => ?_) (fun c1 => ?_)
    · refine go_iconst dX8_greatestAlike_23 (by decide) ?_
      refine go_istore (lv' := [(4, vI 0), (0, vR 273), (1, vR v), (2, vI ((s : Nat) : Int)), (3, vI ((k : Nat) : Int))]) dX8_greatestAlike_24 (by decide) rfl ?_
      refine go_iconst dX8_greatestAlike_26 (by decide) ?_
      refine go_istore (lv' := [(5, vI 0), (4, vI 0), (0, vR 273), (1, vR v), (2, vI ((s : Nat) : Int)), (3, vI ((k : Nat) : Int))]) dX8_greatestAlike_27 (by decide) rfl ?_
      refine go_lv [0, 1, 2, 3, 4, 5] rfl ?_
      exact lp_X8_greatestAlike_29 hv hT hs6 hQ (T + 1) 0 (by omega) (by omega) M' hs (fun p hp => h5 p (by omega))
    · refine go_aload_n 1 dX8_greatestAlike_9 rfl rfl ?_
      refine go_getR (r := 277) dX8_greatestAlike_10 lk8_21.get kd_273 (by omega) rfl (pp_273_3 w) ?_
      refine go_iload 0 dX8_greatestAlike_13 rfl ?_
      refine go_iconst dX8_greatestAlike_15 (by decide) ?_
      refine gx_iastore i dX8_greatestAlike_16 kd_277 (by omega) ln_277 rfl (by omega) ?_
      refine gx_iinc (v := ((i + 1 : Nat) : Int)) (lv' := [(4, vI ((i + 1 : Nat) : Int)), (0, vR 273), (1, vR v), (2, vI ((s : Nat) : Int)), (3, vI ((k : Nat) : Int))]) 0 dX8_greatestAlike_17 rfl (by omega) ⟨by omega, by omega⟩ (by decide) rfl ?_
      refine go_goto (tgt := 3) dX8_greatestAlike_20 rfl ?_
      refine go_lv [0, 1, 2, 3, 4] rfl ?_
      exact ih (i + 1) (by omega) (by omega) _ (hs.up (by omega)) (fun p hp => by by_cases hpi : p = i; (rw [hpi]; exact up2_same); exact (up2_ne (by omega)).trans (h5 p (by omega)))

set_option maxHeartbeats 4000000 in
set_option maxRecDepth 100000 in
theorem ok_X8_greatestAlike {v w T s k : Nat} {lt : Nat → Nat} {M : inm} {Q : Int → Nat → rfm → inm → Prop} (hv : Cs v) (hT : Tys M v T lt) (hs6 : s < 64) (hQ : ∀ M' : inm, Sc M M' → Q (fo (galG s (fun t => kindV lt (fun t k => M (v + 7 + t) k) t k)) T 0) 303 (PP w) M') : OkI yX8_greatestAlike cX8_greatestAlike 8 1 0 0 (some .int) [vR 273, vR v, vI ((s : Nat) : Int), vI ((k : Nat) : Int)] 303 (PP w) M Q := by
  refine OkI.of (by decide +kernel) (by decide +kernel) (Nat.le_of_ble_eq_true rfl) ?_
  refine go_eq (lv' := [(0, vR 273), (1, vR v), (2, vI ((s : Nat) : Int)), (3, vI ((k : Nat) : Int))]) rfl rfl rfl rfl rfl ?_
  refine go_iconst dX8_greatestAlike_0 (by decide) ?_
  refine go_istore (lv' := [(4, vI 0), (0, vR 273), (1, vR v), (2, vI ((s : Nat) : Int)), (3, vI ((k : Nat) : Int))]) dX8_greatestAlike_1 (by decide) rfl ?_
  refine go_lv [0, 1, 2, 3, 4] rfl ?_
  exact lp_X8_greatestAlike_3 hv hT hs6 hQ 7 0 (by omega) (by omega) M (Sc.rf M) (fun p hp => absurd hp (by omega))

theorem gal_congr {s : Nat} {f g : Nat → Int} : ∀ n, (∀ t, t < n → f t = g t) → fo (galG s f) n 0 = fo (galG s g) n 0
  | 0, _ => rfl
  | n + 1, h => by
    have ih := gal_congr (s := s) n (fun t ht => h t (by omega))
    rw [fo, fo, ih, galG, galG, h n (by omega), cntTo_congr (p := alk s f (plc (g n))) (q := alk s g (plc (g n))) (n + 1) (fun j hj => by unfold alk; rw [h j (by omega)])]
set_option maxHeartbeats 4000000 in
set_option maxRecDepth 100000 in
theorem lp_X8_bestQuestion {v w T s : Nat} {lt : Nat → Nat} {M : inm} {Q : Int → Nat → rfm → inm → Prop} (hv : Cs v) (hT : Tys M v T lt) (hs6 : s < 64) (hQ : ∀ M' : inm, Sc M M' → Q (fo (qG (fun k => fo (galG s (fun t => kindV lt (fun t k => M (v + 7 + t) k) t k)) T 0)) 8 (-1, ((bitsJ s : Nat) : Int))).1 303 (PP w) M') : ∀ d i, 8 < i + d → i ≤ 8 → ∀ M' : inm, Sc M M' → Go S0 yX8_bestQuestion cX8_bestQuestion 7 2 0 0 (some .int) 11 [(5, vI ((i : Nat) : Int)), (3, vI ((fo (qG (fun k => fo (galG s (fun t => kindV lt (fun t k => M (v + 7 + t) k) t k)) T 0)) i (-1, ((bitsJ s : Nat) : Int))).1)), (4, vI ((fo (qG (fun k => fo (galG s (fun t => kindV lt (fun t k => M (v + 7 + t) k) t k)) T 0)) i (-1, ((bitsJ s : Nat) : Int))).2)), (0, vR 273), (1, vR v), (2, vI ((s : Nat) : Int))] [] 303 (PP w) M' (fun v n P M => ∃ z, v = some (vI z) ∧ Q z n P M) := by
  have hT6 := hT.2.1
  have hvsc := hv.sc
  intro d
  induction d with
  | zero => intro i h1 h2; exfalso; omega
  | succ d ih =>
    intro i h1 h2 M' hs
    refine go_iload 0 dX8_bestQuestion_11 rfl ?_
    refine go_bipush dX8_bestQuestion_13 (by decide) (by decide) ?_
    refine go_icmp_ge (tgt := 48) dX8_bestQuestion_15 rfl (fun c1 => ?_) (fun c1 => ?_)
    · refine go_iload_n 1 dX8_bestQuestion_48 rfl rfl ?_
      refine go_iret dX8_bestQuestion_49 rfl rfl ⟨_, rfl, ?_⟩
      rw [show i = 8 by omega]
      exact hQ M' hs
    · refine go_aload_n 3 dX8_bestQuestion_18 rfl rfl ?_
      refine go_aload_n 4 dX8_bestQuestion_19 rfl rfl ?_
      refine go_iload_n 5 dX8_bestQuestion_20 rfl rfl ?_
      refine go_iload 0 dX8_bestQuestion_21 rfl ?_
      refine go_callVI (av := [vR v, vI ((s : Nat) : Int), vI ((i : Nat) : Int)]) (st := []) (a := 273) (mc2 := 0) (ms2 := 0) dX8_bestQuestion_23 cw8_73 (by decide) rfl rfl (Nat.le_of_ble_eq_true rfl) rfl rfl kd_273 ⟨_, _, rfl⟩ (by decide) (by omega) (ok_X8_greatestAlike (k := i) (M := M') hv (hT.sc hv hs) hs6 (fun M2 hs2 => ?_))
      rw [show (fun t => kindV lt (fun t k => M' (v + 7 + t) k) t i) = (fun t => kindV lt (fun t k => M' (v + 7 + t) k) t i) from rfl]
      have hge : fo (galG s (fun t => kindV lt (fun t k => M' (v + 7 + t) k) t i)) T 0 = fo (galG s (fun t => kindV lt (fun t k => M (v + 7 + t) k) t i)) T 0 := gal_congr T (fun t ht => by unfold kindV; simp only [hs (v + 7 + t) i (Or.inl (by omega))])
      rw [hge]
      refine go_istore (lv' := [(6, vI (fo (galG s (fun t => kindV lt (fun t k => M (v + 7 + t) k) t i)) T 0)), (5, vI ((i : Nat) : Int)), (3, vI ((fo (qG (fun k => fo (galG s (fun t => kindV lt (fun t k => M (v + 7 + t) k) t k)) T 0)) i (-1, ((bitsJ s : Nat) : Int))).1)), (4, vI ((fo (qG (fun k => fo (galG s (fun t => kindV lt (fun t k => M (v + 7 + t) k) t k)) T 0)) i (-1, ((bitsJ s : Nat) : Int))).2)), (0, vR 273), (1, vR v), (2, vI ((s : Nat) : Int))]) dX8_bestQuestion_26 (by decide) rfl ?_
      refine go_iload 0 dX8_bestQuestion_28 rfl ?_
      refine go_iload 3 dX8_bestQuestion_30 rfl ?_
      refine go_icmp_ge (tgt := 42) dX8_bestQuestion_32 rfl (fun c2 => ?_) (fun c2 => ?_)
      · refine gx_iinc (v := ((i + 1 : Nat) : Int)) (lv' := [(5, vI ((i + 1 : Nat) : Int)), (6, vI (fo (galG s (fun t => kindV lt (fun t k => M (v + 7 + t) k) t i)) T 0)), (3, vI ((fo (qG (fun k => fo (galG s (fun t => kindV lt (fun t k => M (v + 7 + t) k) t k)) T 0)) i (-1, ((bitsJ s : Nat) : Int))).1)), (4, vI ((fo (qG (fun k => fo (galG s (fun t => kindV lt (fun t k => M (v + 7 + t) k) t k)) T 0)) i (-1, ((bitsJ s : Nat) : Int))).2)), (0, vR 273), (1, vR v), (2, vI ((s : Nat) : Int))]) 1 dX8_bestQuestion_42 rfl (by omega) ⟨by omega, by omega⟩ (by decide) rfl ?_
        refine go_goto (tgt := 11) dX8_bestQuestion_45 rfl ?_
        refine go_lv [0, 2, 3, 4, 5, 6] rfl ?_
        have he : (fo (qG (fun k => fo (galG s (fun t => kindV lt (fun t k => M (v + 7 + t) k) t k)) T 0)) (i + 1) (-1, ((bitsJ s : Nat) : Int))) = ((fo (qG (fun k => fo (galG s (fun t => kindV lt (fun t k => M (v + 7 + t) k) t k)) T 0)) i (-1, ((bitsJ s : Nat) : Int))).1, (fo (qG (fun k => fo (galG s (fun t => kindV lt (fun t k => M (v + 7 + t) k) t k)) T 0)) i (-1, ((bitsJ s : Nat) : Int))).2) := by rw [fo]; simp only [qG]; first | (rw [if_pos (by omega)]; done) | (rw [if_neg (by omega)]; done)
        refine go_eq (lv' := [(5, vI (((i + 1) : Nat) : Int)), (3, vI ((fo (qG (fun k => fo (galG s (fun t => kindV lt (fun t k => M (v + 7 + t) k) t k)) T 0)) (i + 1) (-1, ((bitsJ s : Nat) : Int))).1)), (4, vI ((fo (qG (fun k => fo (galG s (fun t => kindV lt (fun t k => M (v + 7 + t) k) t k)) T 0)) (i + 1) (-1, ((bitsJ s : Nat) : Int))).2)), (0, vR 273), (1, vR v), (2, vI ((s : Nat) : Int))]) (by rw [he]; rfl) rfl rfl rfl rfl ?_
        exact ih (i + 1) (by omega) (by omega) M2 (hs.trans hs2)
      · refine go_iload 0 dX8_bestQuestion_35 rfl ?_
        refine go_istore (lv' := [(4, vI (fo (galG s (fun t => kindV lt (fun t k => M (v + 7 + t) k) t i)) T 0)), (6, vI (fo (galG s (fun t => kindV lt (fun t k => M (v + 7 + t) k) t i)) T 0)), (5, vI ((i : Nat) : Int)), (3, vI ((fo (qG (fun k => fo (galG s (fun t => kindV lt (fun t k => M (v + 7 + t) k) t k)) T 0)) i (-1, ((bitsJ s : Nat) : Int))).1)), (0, vR 273), (1, vR v), (2, vI ((s : Nat) : Int))]) dX8_bestQuestion_37 (by decide) rfl ?_
        refine go_iload 2 dX8_bestQuestion_39 rfl ?_
        refine go_istore_n (lv' := [(3, vI ((i : Nat) : Int)), (4, vI (fo (galG s (fun t => kindV lt (fun t k => M (v + 7 + t) k) t i)) T 0)), (6, vI (fo (galG s (fun t => kindV lt (fun t k => M (v + 7 + t) k) t i)) T 0)), (5, vI ((i : Nat) : Int)), (0, vR 273), (1, vR v), (2, vI ((s : Nat) : Int))]) dX8_bestQuestion_41 rfl (by decide) rfl ?_
        refine gx_iinc (v := ((i + 1 : Nat) : Int)) (lv' := [(5, vI ((i + 1 : Nat) : Int)), (3, vI ((i : Nat) : Int)), (4, vI (fo (galG s (fun t => kindV lt (fun t k => M (v + 7 + t) k) t i)) T 0)), (6, vI (fo (galG s (fun t => kindV lt (fun t k => M (v + 7 + t) k) t i)) T 0)), (0, vR 273), (1, vR v), (2, vI ((s : Nat) : Int))]) 3 dX8_bestQuestion_42 rfl (by omega) ⟨by omega, by omega⟩ (by decide) rfl ?_
        refine go_goto (tgt := 11) dX8_bestQuestion_45 rfl ?_
        refine go_lv [0, 1, 2, 4, 5, 6] rfl ?_
        have he : (fo (qG (fun k => fo (galG s (fun t => kindV lt (fun t k => M (v + 7 + t) k) t k)) T 0)) (i + 1) (-1, ((bitsJ s : Nat) : Int))) = (((i : Nat) : Int), (fo (galG s (fun t => kindV lt (fun t k => M (v + 7 + t) k) t i)) T 0)) := by rw [fo]; simp only [qG]; first | (rw [if_pos (by omega)]; done) | (rw [if_neg (by omega)]; done)
        refine go_eq (lv' := [(5, vI (((i + 1) : Nat) : Int)), (3, vI ((fo (qG (fun k => fo (galG s (fun t => kindV lt (fun t k => M (v + 7 + t) k) t k)) T 0)) (i + 1) (-1, ((bitsJ s : Nat) : Int))).1)), (4, vI ((fo (qG (fun k => fo (galG s (fun t => kindV lt (fun t k => M (v + 7 + t) k) t k)) T 0)) (i + 1) (-1, ((bitsJ s : Nat) : Int))).2)), (0, vR 273), (1, vR v), (2, vI ((s : Nat) : Int))]) (by rw [he]; rfl) rfl rfl rfl rfl ?_
        exact ih (i + 1) (by omega) (by omega) M2 (hs.trans hs2)

set_option maxHeartbeats 4000000 in
set_option maxRecDepth 100000 in
theorem ok_X8_bestQuestion {v w T s : Nat} {lt : Nat → Nat} {M : inm} {Q : Int → Nat → rfm → inm → Prop} (hv : Cs v) (hT : Tys M v T lt) (hs6 : s < 64) (hQ : ∀ M' : inm, Sc M M' → Q (fo (qG (fun k => fo (galG s (fun t => kindV lt (fun t k => M (v + 7 + t) k) t k)) T 0)) 8 (-1, ((bitsJ s : Nat) : Int))).1 303 (PP w) M') : OkI yX8_bestQuestion cX8_bestQuestion 7 2 0 0 (some .int) [vR 273, vR v, vI ((s : Nat) : Int)] 303 (PP w) M Q := by
  refine OkI.of (by decide +kernel) (by decide +kernel) (Nat.le_of_ble_eq_true rfl) ?_
  refine go_eq (lv' := [(0, vR 273), (1, vR v), (2, vI ((s : Nat) : Int))]) rfl rfl rfl rfl rfl ?_
  refine go_iconst dX8_bestQuestion_0 (by decide) ?_
  refine go_istore_n (lv' := [(3, vI (-1)), (0, vR 273), (1, vR v), (2, vI ((s : Nat) : Int))]) dX8_bestQuestion_1 rfl (by decide) rfl ?_
  refine go_iload_n 3 dX8_bestQuestion_2 rfl rfl ?_
  refine go_callSI (av := [vI ((s : Nat) : Int)]) (st := []) (mc2 := 0) (ms2 := 0) dX8_bestQuestion_3 cw8_68 (by decide) rfl rfl (Nat.le_of_ble_eq_true rfl) rfl rfl (ok_J6_bitCount_0f7a4 hs6 ?_)
  refine go_istore (lv' := [(4, vI ((bitsJ s : Nat) : Int)), (3, vI (-1)), (0, vR 273), (1, vR v), (2, vI ((s : Nat) : Int))]) dX8_bestQuestion_6 (by decide) rfl ?_
  refine go_iconst dX8_bestQuestion_8 (by decide) ?_
  refine go_istore (lv' := [(5, vI 0), (4, vI ((bitsJ s : Nat) : Int)), (3, vI (-1)), (0, vR 273), (1, vR v), (2, vI ((s : Nat) : Int))]) dX8_bestQuestion_9 (by decide) rfl ?_
  refine go_lv [0, 2, 1, 3, 4, 5] rfl ?_
  exact lp_X8_bestQuestion hv hT hs6 hQ 9 0 (by omega) (by omega) M (Sc.rf M)

