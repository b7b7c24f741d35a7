/-! ===== Trial: shares, questions ===== -/
theorem gx_iushr {S : Nat × (Nat → Int32)} {y : MethodName} {cc : ByteArray} {nL t mc ms : Nat} {ret : Option FieldType} {pc : Nat} {lv : List (Nat × PV)} {st : List PV} {n : Nat} {P : rfm} {M : inm} {Q : Post} {x z : Int} {a c : Nat} (b : Nat) (d : decode cc pc = .ok (.iushr, 1)) (hx : x = (a : Int)) (hz : z = (b : Int)) (hb : b ≤ 31) (hc : 2 ^ b = c) (k : Go S y cc nL t mc ms ret (pc + 1) lv (vI ((a / c : Nat) : Int) :: st) n P M Q) : Go S y cc nL t mc ms ret pc lv (vI z :: vI x :: st) n P M Q := by
  subst hx
  subst hz
  subst hc
  exact go_iushr d (by omega) (by omega) (by omega) k
def argm (sh : Nat → Int) (n : Nat) : Nat := fo (fun e b => if sh e < sh b then e else b) n 0
theorem argm_lt {sh : Nat → Int} : ∀ n, argm sh n < max n 1
  | 0 => by show 0 < max 0 1; omega
  | n + 1 => by
    have ih := argm_lt (sh := sh) n
    unfold argm at ih ⊢
    rw [fo]
    split <;> omega
theorem argm_s {sh : Nat → Int} {n : Nat} : argm sh (n + 1) = if sh n < sh (argm sh n) then n else argm sh n := rfl
theorem argm_1 {sh : Nat → Int} : argm sh 1 = 0 := by
  rw [argm_s]
  split <;> rfl
theorem argm_congr {sh sh' : Nat → Int} : ∀ n, (∀ j, j < max n 1 → sh j = sh' j) → argm sh n = argm sh' n
  | 0, _ => rfl
  | n + 1, h => by
    have ih := argm_congr n (fun j hj => h j (by omega))
    have hb := argm_lt (sh := sh') n
    rw [argm_s, argm_s, ih, h n (by omega), h (argm sh' n) (by omega)]
def shG (W : Nat → Int) (E : Nat) (k : Int) (i : Nat) (s : (Nat → Int) × Int) : (Nat → Int) × Int := (fun j => if j = argm s.1 E then s.1 j + W i else s.1 j, if (i : Int) = k then ((argm s.1 E : Nat) : Int) else s.2)
theorem sh_in {W g : Nat → Int} {E : Nat} {k : Int} (hg : ∀ j, j < 5 → 0 ≤ g j ∧ g j ≤ 9999) : ∀ n, (∀ i, i < n → 0 ≤ W i ∧ W i ≤ 40) → ∀ j, j < 5 → 0 ≤ (fo (shG W E k) n (g, -1)).1 j ∧ (fo (shG W E k) n (g, -1)).1 j ≤ 9999 + 40 * n
  | 0, _ => fun j hj => ⟨(hg j hj).1, by have := (hg j hj).2; show g j ≤ 9999 + 40 * ((0 : Nat) : Int); omega⟩
  | n + 1, h => fun j hj => by
    have ih := sh_in (E := E) (k := k) hg n (fun i hi => h i (by omega)) j hj
    have h1 := h n (by omega)
    show 0 ≤ (if j = argm _ E then (fo (shG W E k) n (g, -1)).1 j + W n else _) ∧ (if j = argm _ E then (fo (shG W E k) n (g, -1)).1 j + W n else _) ≤ _
    split <;> omega
set_option maxHeartbeats 4000000 in
set_option maxRecDepth 100000 in
theorem lp_X8_poorest {w E : Nat} {M : inm} {Q : Int → Nat → rfm → inm → Prop} (hE : 1 ≤ E ∧ E ≤ 5) (hQ : Q ((argm (fun e => M 276 e) E : Nat) : Int) 303 (PP w) M) : ∀ (d k : Nat), E < k + d → 1 ≤ k → k ≤ E → Go S0 yX8_poorest cX8_poorest 4 0 0 0 (some .int) 4 [(3, vI ((k : Nat) : Int)), (2, vI ((argm (fun e => M 276 e) k : Nat) : Int)), (0, vR 273), (1, vI ((E : Nat) : Int))] [] 303 (PP w) M (fun v n P M => ∃ z, v = some (vI z) ∧ Q z n P M) := by
  intro d
  induction d with
  | zero => intro k h1 h2 h3; exfalso; omega
  | succ d ih =>
    intro k h1 h2 h3
    have hb := argm_lt (sh := (fun e => M 276 e)) k
    refine go_iload_n 0 dX8_poorest_4 rfl rfl ?_
    refine go_iload_n 3 dX8_poorest_5 rfl rfl ?_
    refine go_icmp_ge (tgt := 42) dX8_poorest_6 rfl (fun c1 => ?_) (fun c1 => ?_)
    · refine go_iload_n 1 dX8_poorest_42 rfl rfl ?_
      refine go_iret dX8_poorest_43 rfl rfl ⟨_, rfl, ?_⟩
      rw [show k = E by omega]
      exact hQ
    · refine go_iload_n 0 dX8_poorest_9 rfl rfl ?_
      refine go_iconst dX8_poorest_10 (by decide) ?_
      refine go_icmp_ge (tgt := 42) dX8_poorest_11 rfl (fun c2 => ?_) (fun c2 => ?_)
      · exact absurd c2 (by omega)
      · refine go_iload_n 1 dX8_poorest_14 rfl rfl ?_
        refine go_iconst dX8_poorest_15 (by decide) ?_
        refine go_icmp_eq (tgt := 34) dX8_poorest_16 rfl (fun c3 => ?_) (fun c3 => ?_)
        · exact absurd c3 (by omega)
        · refine go_aload_n 2 dX8_poorest_19 rfl rfl ?_
          refine go_getR (r := 276) dX8_poorest_20 lk8_18.get kd_273 (by omega) rfl (pp_273_2 w) ?_
          refine go_iload_n 0 dX8_poorest_23 rfl rfl ?_
          refine gx_iaload (v := (M 276 k)) k dX8_poorest_24 kd_276 (by omega) ln_276 rfl (by omega) rfl ?_
          refine go_aload_n 2 dX8_poorest_25 rfl rfl ?_
          refine go_getR (r := 276) dX8_poorest_26 lk8_18.get kd_273 (by omega) rfl (pp_273_2 w) ?_
          refine go_iload_n 1 dX8_poorest_29 rfl rfl ?_
          refine gx_iaload (v := (M 276 (argm (fun e => M 276 e) k))) (argm (fun e => M 276 e) k) dX8_poorest_30 kd_276 (by omega) ln_276 rfl (by omega) rfl ?_
          refine go_icmp_ge (tgt := 36) dX8_poorest_31 rfl (fun c4 => ?_) (fun c4 => ?_)
          · refine gx_iinc (v := ((k + 1 : Nat) : Int)) (lv' := [(3, vI ((k + 1 : Nat) : Int)), (2, vI ((argm (fun e => M 276 e) k : Nat) : Int)), (0, vR 273), (1, vI ((E : Nat) : Int))]) 0 dX8_poorest_36 rfl (by omega) ⟨by omega, by omega⟩ (by decide) rfl ?_
            refine go_goto (tgt := 4) dX8_poorest_39 rfl ?_
            have e5 : ((argm (fun e => M 276 e) k : Nat) : Int) = ((argm (fun e => M 276 e) (k + 1) : Nat) : Int) := by (rw [argm_s]; first | (rw [if_pos (by assumption)]; done) | (rw [if_pos (by omega)]; done) | (rw [if_neg (by omega)]; done))
            rw [e5]
            exact ih (k + 1) (by omega) (by omega) (by omega)
          · refine go_iload_n 0 dX8_poorest_34 rfl rfl ?_
            refine go_istore_n (lv' := [(2, vI ((k : Nat) : Int)), (3, vI ((k : Nat) : Int)), (0, vR 273), (1, vI ((E : Nat) : Int))]) dX8_poorest_35 rfl (by decide) rfl ?_
            refine gx_iinc (v := ((k + 1 : Nat) : Int)) (lv' := [(3, vI ((k + 1 : Nat) : Int)), (2, vI ((k : Nat) : Int)), (0, vR 273), (1, vI ((E : Nat) : Int))]) 1 dX8_poorest_36 rfl (by omega) ⟨by omega, by omega⟩ (by decide) rfl ?_
            refine go_goto (tgt := 4) dX8_poorest_39 rfl ?_
            have e6 : ((k : Nat) : Int) = ((argm (fun e => M 276 e) (k + 1) : Nat) : Int) := by (rw [argm_s]; first | (rw [if_pos (by assumption)]; done) | (rw [if_pos (by omega)]; done) | (rw [if_neg (by omega)]; done))
            rw [e6]
            exact ih (k + 1) (by omega) (by omega) (by omega)

set_option maxHeartbeats 4000000 in
set_option maxRecDepth 100000 in
theorem ok_X8_poorest {w E : Nat} {M : inm} {Q : Int → Nat → rfm → inm → Prop} (hE : 1 ≤ E ∧ E ≤ 5) (hQ : Q ((argm (fun e => M 276 e) E : Nat) : Int) 303 (PP w) M) : OkI yX8_poorest cX8_poorest 4 0 0 0 (some .int) [vR 273, vI ((E : Nat) : Int)] 303 (PP w) M Q := by
  refine OkI.of (by decide +kernel) (by decide +kernel) (Nat.le_of_ble_eq_true rfl) ?_
  refine go_eq (lv' := [(0, vR 273), (1, vI ((E : Nat) : Int))]) rfl rfl rfl rfl rfl ?_
  refine go_iconst dX8_poorest_0 (by decide) ?_
  refine go_istore_n (lv' := [(2, vI (-1)), (0, vR 273), (1, vI ((E : Nat) : Int))]) dX8_poorest_1 rfl (by decide) rfl ?_
  refine go_iconst dX8_poorest_2 (by decide) ?_
  refine go_istore_n (lv' := [(3, vI 0), (2, vI (-1)), (0, vR 273), (1, vI ((E : Nat) : Int))]) dX8_poorest_3 rfl (by decide) rfl ?_
  refine go_iload_n 0 dX8_poorest_4 rfl rfl ?_
  refine go_iload_n 3 dX8_poorest_5 rfl rfl ?_
  refine go_icmp_ge (tgt := 42) dX8_poorest_6 rfl (fun c1 => ?_) (fun c1 => ?_)
  · exact absurd c1 (by omega)
  · refine go_iload_n 0 dX8_poorest_9 rfl rfl ?_
    refine go_iconst dX8_poorest_10 (by decide) ?_
    refine go_icmp_ge (tgt := 42) dX8_poorest_11 rfl (fun c2 => ?_) (fun c2 => ?_)
    · exact absurd c2 (by omega)
    · refine go_iload_n 1 dX8_poorest_14 rfl rfl ?_
      refine go_iconst dX8_poorest_15 (by decide) ?_
      refine go_icmp_eq (tgt := 34) dX8_poorest_16 rfl (fun c3 => ?_) (fun c3 => ?_)
      · refine go_iload_n 0 dX8_poorest_34 rfl rfl ?_
        refine go_istore_n (lv' := [(2, vI 0), (3, vI 0), (0, vR 273), (1, vI ((E : Nat) : Int))]) dX8_poorest_35 rfl (by decide) rfl ?_
        refine gx_iinc (v := 1) (lv' := [(3, vI 1), (2, vI 0), (0, vR 273), (1, vI ((E : Nat) : Int))]) 1 dX8_poorest_36 rfl (by omega) ⟨by omega, by omega⟩ (by decide) rfl ?_
        refine go_goto (tgt := 4) dX8_poorest_39 rfl ?_
        refine go_lv [0, 1, 2, 3] rfl ?_
        refine go_eq (lv' := [(3, vI 1), (2, vI ((argm (fun e => M 276 e) 1 : Nat) : Int)), (0, vR 273), (1, vI ((E : Nat) : Int))]) (by rw [argm_1]; rfl) rfl rfl rfl rfl ?_
        exact lp_X8_poorest hE hQ (E + 1) 1 (by omega) (by omega) (by omega)
      · exact absurd rfl c3

set_option maxHeartbeats 4000000 in
set_option maxRecDepth 100000 in
theorem lp_X8_shareOut {a w L E : Nat} {k : Int} {M : inm} {Q : Int → Nat → rfm → inm → Prop} (ha : On a) (hL : Lay M a L) (hE : 1 ≤ E ∧ E ≤ 5) (hg : ∀ e, e < 5 → 0 ≤ M (a + 3) e ∧ M (a + 3) e ≤ 9999) (hQ : ∀ M' : inm, Sc M M' → (∀ j, j < 5 → M' 276 j = (fo (shG (fun j => worth (M (a + 1) j) (M (a + 2) j)) E k) L ((fun j => M (a + 3) j), -1)).1 j) → Q (fo (shG (fun j => worth (M (a + 1) j) (M (a + 2) j)) E k) L ((fun j => M (a + 3) j), -1)).2 303 (PP w) M') : ∀ d i, L < i + d → i ≤ L → ∀ M' : inm, Sc M M' → (∀ j, j < 5 → M' 276 j = (fo (shG (fun j => worth (M (a + 1) j) (M (a + 2) j)) E k) i ((fun j => M (a + 3) j), -1)).1 j) → Go S0 yX8_shareOut cX8_shareOut 7 2 0 0 (some .int) 20 [(5, vI ((i : Nat) : Int)), (4, vI ((fo (shG (fun j => worth (M (a + 1) j) (M (a + 2) j)) E k) i ((fun j => M (a + 3) j), -1)).2)), (0, vR 273), (1, vR a), (2, vI ((E : Nat) : Int)), (3, vI k)] [] 303 (PP w) M' (fun v n P M => ∃ z, v = some (vI z) ∧ Q z n P M) := by
  have hL12 := hL.2.1
  have hasc := ha.sc (j := 6) (by omega)
  have hW : ∀ j, j < L → 0 ≤ (fun j => worth (M (a + 1) j) (M (a + 2) j)) j ∧ (fun j => worth (M (a + 1) j) (M (a + 2) j)) j ≤ 40 := fun j hj => by have h9 := hL.2.2.1 j hj; have h8 := worth_in (c := M (a + 1) j) h9.1; exact ⟨h8.1, by show worth (M (a + 1) j) (M (a + 2) j) ≤ 40; omega⟩
  intro d
  induction d with
  | zero => intro i h1 h2; exfalso; omega
  | succ d ih =>
    intro i h1 h2 M' hs h5
    have hLs := hL.sc ha hs
    have hsh := sh_in (W := (fun j => worth (M (a + 1) j) (M (a + 2) j))) (g := (fun j => M (a + 3) j)) (E := E) (k := k) hg i (fun j hj => hW j (by omega))
    have hal := argm_lt (sh := (fo (shG (fun j => worth (M (a + 1) j) (M (a + 2) j)) E k) i ((fun j => M (a + 3) j), -1)).1) E
    refine go_iload 0 dX8_shareOut_20 rfl ?_
    refine go_aload_n 3 dX8_shareOut_22 rfl rfl ?_
    refine gx_getI (v := ((L : Nat) : Int)) dX8_shareOut_23 lk8_24.get ha.k0 ha.l0 rfl hLs.1 ?_
    refine go_icmp_ge (tgt := 74) dX8_shareOut_26 rfl (fun c1 => ?_) (fun c1 => ?_)
    · refine go_iload 1 dX8_shareOut_74 rfl ?_
      refine go_iret dX8_shareOut_76 rfl rfl ⟨_, rfl, ?_⟩
      rw [show i = L by omega] at h5 ⊢
      exact hQ M' hs h5
    · refine go_aload_n 2 dX8_shareOut_29 rfl rfl ?_
      refine go_iload_n 4 dX8_shareOut_30 rfl rfl ?_
      refine go_callVI (av := [vI ((E : Nat) : Int)]) (st := []) (a := 273) (mc2 := 0) (ms2 := 0) dX8_shareOut_31 cw8_65 (by decide) rfl rfl (Nat.le_of_ble_eq_true rfl) rfl rfl kd_273 ⟨_, _, rfl⟩ (by decide) (by omega) (ok_X8_poorest (M := M') hE ?_)
      rw [argm_congr (sh' := (fo (shG (fun j => worth (M (a + 1) j) (M (a + 2) j)) E k) i ((fun j => M (a + 3) j), -1)).1) E (fun j hj => h5 j (by omega))]
      refine go_istore (lv' := [(6, vI ((argm (fo (shG (fun j => worth (M (a + 1) j) (M (a + 2) j)) E k) i ((fun j => M (a + 3) j), -1)).1 E : Nat) : Int)), (5, vI ((i : Nat) : Int)), (4, vI ((fo (shG (fun j => worth (M (a + 1) j) (M (a + 2) j)) E k) i ((fun j => M (a + 3) j), -1)).2)), (0, vR 273), (1, vR a), (2, vI ((E : Nat) : Int)), (3, vI k)]) dX8_shareOut_34 (by decide) rfl ?_
      refine go_iload 0 dX8_shareOut_36 rfl ?_
      refine go_iconst dX8_shareOut_38 (by decide) ?_
      refine go_icmp_eq (tgt := 58) dX8_shareOut_39 rfl (fun c2 => ?_) (fun c2 => ?_)
      · exact absurd c2 (by omega)
      · refine go_aload_n 3 dX8_shareOut_42 rfl rfl ?_
        refine go_getR (r := 276) dX8_shareOut_43 lk8_18.get kd_273 (by omega) rfl (pp_273_2 w) ?_
        refine go_iload 0 dX8_shareOut_46 rfl ?_
        refine go_dup2 dX8_shareOut_48 rfl rfl ?_
        have f3 := hsh (argm (fo (shG (fun j => worth (M (a + 1) j) (M (a + 2) j)) E k) i ((fun j => M (a + 3) j), -1)).1 E) (by omega)
        refine gx_iaload (v := ((fo (shG (fun j => worth (M (a + 1) j) (M (a + 2) j)) E k) i ((fun j => M (a + 3) j), -1)).1 (argm (fo (shG (fun j => worth (M (a + 1) j) (M (a + 2) j)) E k) i ((fun j => M (a + 3) j), -1)).1 E))) (argm (fo (shG (fun j => worth (M (a + 1) j) (M (a + 2) j)) E k) i ((fun j => M (a + 3) j), -1)).1 E) dX8_shareOut_49 kd_276 (by omega) ln_276 rfl (by omega) ((h5 (argm (fo (shG (fun j => worth (M (a + 1) j) (M (a + 2) j)) E k) i ((fun j => M (a + 3) j), -1)).1 E) (by omega))) ?_
        refine go_aload_n 4 dX8_shareOut_50 rfl rfl ?_
        refine go_iload 1 dX8_shareOut_51 rfl ?_
        refine go_callVI (av := [vI ((i : Nat) : Int)]) (st := [vI ((fo (shG (fun j => worth (M (a + 1) j) (M (a + 2) j)) E k) i ((fun j => M (a + 3) j), -1)).1 (argm (fo (shG (fun j => worth (M (a + 1) j) (M (a + 2) j)) E k) i ((fun j => M (a + 3) j), -1)).1 E)), vI ((argm (fo (shG (fun j => worth (M (a + 1) j) (M (a + 2) j)) E k) i ((fun j => M (a + 3) j), -1)).1 E : Nat) : Int), vR 276]) (a := a) (mc2 := 0) (ms2 := 0) dX8_shareOut_53 cw8_34 (by decide) rfl rfl (Nat.le_of_ble_eq_true rfl) rfl rfl ha.k0 ⟨_, _, rfl⟩ (by decide) ha.l0 (ok_X6_worthOf (k := i) (M := M') ha (by rw [(hL.sc ha hs).1]; omega) (by omega) ((hL.sc ha hs).2.2.1 i (by omega)) ?_)
        rw [hs (a + 1) i (Or.inl (ha.sc (by omega))), hs (a + 2) i (Or.inl (ha.sc (by omega)))]
        have g4 := worth_in (c := M (a + 1) i) (hL.2.2.1 i (by omega)).1
        have g4b := hL.2.2.1 i (by omega)
        refine gx_iadd (v := (((fo (shG (fun j => worth (M (a + 1) j) (M (a + 2) j)) E k) i ((fun j => M (a + 3) j), -1)).1 (argm (fo (shG (fun j => worth (M (a + 1) j) (M (a + 2) j)) E k) i ((fun j => M (a + 3) j), -1)).1 E)) + (worth (M (a + 1) i) (M (a + 2) i)))) dX8_shareOut_56 rfl ⟨by omega, by omega⟩ ?_
        refine gx_iastore (argm (fo (shG (fun j => worth (M (a + 1) j) (M (a + 2) j)) E k) i ((fun j => M (a + 3) j), -1)).1 E) dX8_shareOut_57 kd_276 (by omega) ln_276 rfl (by omega) ?_
        refine go_iload 1 dX8_shareOut_58 rfl ?_
        refine go_iload_n 6 dX8_shareOut_60 rfl rfl ?_
        refine go_icmp_ne (tgt := 68) dX8_shareOut_61 rfl (fun c5 => ?_) (fun c5 => ?_)
        · refine gx_iinc (v := ((i + 1 : Nat) : Int)) (lv' := [(5, vI ((i + 1 : Nat) : Int)), (6, vI ((argm (fo (shG (fun j => worth (M (a + 1) j) (M (a + 2) j)) E k) i ((fun j => M (a + 3) j), -1)).1 E : Nat) : Int)), (4, vI ((fo (shG (fun j => worth (M (a + 1) j) (M (a + 2) j)) E k) i ((fun j => M (a + 3) j), -1)).2)), (0, vR 273), (1, vR a), (2, vI ((E : Nat) : Int)), (3, vI k)]) 1 dX8_shareOut_68 rfl (by omega) ⟨by omega, by omega⟩ (by decide) rfl ?_
          refine go_goto (tgt := 20) dX8_shareOut_71 rfl ?_
          refine go_lv [0, 2, 3, 4, 5, 6] rfl ?_
          have he : (fo (shG (fun j => worth (M (a + 1) j) (M (a + 2) j)) E k) i ((fun j => M (a + 3) j), -1)).2 = (fo (shG (fun j => worth (M (a + 1) j) (M (a + 2) j)) E k) (i + 1) ((fun j => M (a + 3) j), -1)).2 := by
            show _ = (if (i : Int) = k then (((argm (fo (shG (fun j => worth (M (a + 1) j) (M (a + 2) j)) E k) i ((fun j => M (a + 3) j), -1)).1 E) : Nat) : Int) else (fo (shG (fun j => worth (M (a + 1) j) (M (a + 2) j)) E k) i ((fun j => M (a + 3) j), -1)).2)
            first | (rw [if_pos (by omega)]; done) | (rw [if_neg (by omega)]; done)
          rw [he]
          exact ih (i + 1) (by omega) (by omega) _ (hs.up (by omega)) (fun j hj => by show _ = (if j = (argm (fo (shG (fun j => worth (M (a + 1) j) (M (a + 2) j)) E k) i ((fun j => M (a + 3) j), -1)).1 E) then (fo (shG (fun j => worth (M (a + 1) j) (M (a + 2) j)) E k) i ((fun j => M (a + 3) j), -1)).1 j + worth (M (a + 1) i) (M (a + 2) i) else (fo (shG (fun j => worth (M (a + 1) j) (M (a + 2) j)) E k) i ((fun j => M (a + 3) j), -1)).1 j); by_cases hja : j = (argm (fo (shG (fun j => worth (M (a + 1) j) (M (a + 2) j)) E k) i ((fun j => M (a + 3) j), -1)).1 E); (rw [if_pos hja, hja]; exact up2_same); rw [if_neg hja]; exact (up2_ne (by omega)).trans (h5 j hj))
        · refine go_iload 0 dX8_shareOut_64 rfl ?_
          refine go_istore (lv' := [(4, vI ((argm (fo (shG (fun j => worth (M (a + 1) j) (M (a + 2) j)) E k) i ((fun j => M (a + 3) j), -1)).1 E : Nat) : Int)), (6, vI ((argm (fo (shG (fun j => worth (M (a + 1) j) (M (a + 2) j)) E k) i ((fun j => M (a + 3) j), -1)).1 E : Nat) : Int)), (5, vI ((i : Nat) : Int)), (0, vR 273), (1, vR a), (2, vI ((E : Nat) : Int)), (3, vI k)]) dX8_shareOut_66 (by decide) rfl ?_
          refine gx_iinc (v := ((i + 1 : Nat) : Int)) (lv' := [(5, vI ((i + 1 : Nat) : Int)), (4, vI ((argm (fo (shG (fun j => worth (M (a + 1) j) (M (a + 2) j)) E k) i ((fun j => M (a + 3) j), -1)).1 E : Nat) : Int)), (6, vI ((argm (fo (shG (fun j => worth (M (a + 1) j) (M (a + 2) j)) E k) i ((fun j => M (a + 3) j), -1)).1 E : Nat) : Int)), (0, vR 273), (1, vR a), (2, vI ((E : Nat) : Int)), (3, vI k)]) 2 dX8_shareOut_68 rfl (by omega) ⟨by omega, by omega⟩ (by decide) rfl ?_
          refine go_goto (tgt := 20) dX8_shareOut_71 rfl ?_
          refine go_lv [0, 1, 3, 4, 5, 6] rfl ?_
          have he : ((argm (fo (shG (fun j => worth (M (a + 1) j) (M (a + 2) j)) E k) i ((fun j => M (a + 3) j), -1)).1 E : Nat) : Int) = (fo (shG (fun j => worth (M (a + 1) j) (M (a + 2) j)) E k) (i + 1) ((fun j => M (a + 3) j), -1)).2 := by
            show _ = (if (i : Int) = k then (((argm (fo (shG (fun j => worth (M (a + 1) j) (M (a + 2) j)) E k) i ((fun j => M (a + 3) j), -1)).1 E) : Nat) : Int) else (fo (shG (fun j => worth (M (a + 1) j) (M (a + 2) j)) E k) i ((fun j => M (a + 3) j), -1)).2)
            first | (rw [if_pos (by omega)]; done) | (rw [if_neg (by omega)]; done)
          rw [he]
          exact ih (i + 1) (by omega) (by omega) _ (hs.up (by omega)) (fun j hj => by show _ = (if j = (argm (fo (shG (fun j => worth (M (a + 1) j) (M (a + 2) j)) E k) i ((fun j => M (a + 3) j), -1)).1 E) then (fo (shG (fun j => worth (M (a + 1) j) (M (a + 2) j)) E k) i ((fun j => M (a + 3) j), -1)).1 j + worth (M (a + 1) i) (M (a + 2) i) else (fo (shG (fun j => worth (M (a + 1) j) (M (a + 2) j)) E k) i ((fun j => M (a + 3) j), -1)).1 j); by_cases hja : j = (argm (fo (shG (fun j => worth (M (a + 1) j) (M (a + 2) j)) E k) i ((fun j => M (a + 3) j), -1)).1 E); (rw [if_pos hja, hja]; exact up2_same); rw [if_neg hja]; exact (up2_ne (by omega)).trans (h5 j hj))

set_option maxHeartbeats 4000000 in
set_option maxRecDepth 100000 in
theorem ok_X8_shareOut {a w L E : Nat} {k : Int} {M : inm} {Q : Int → Nat → rfm → inm → Prop} (ha : On a) (hL : Lay M a L) (hE : 1 ≤ E ∧ E ≤ 5) (hg : ∀ e, e < 5 → 0 ≤ M (a + 3) e ∧ M (a + 3) e ≤ 9999) (hQ : ∀ M' : inm, Sc M M' → (∀ j, j < 5 → M' 276 j = (fo (shG (fun j => worth (M (a + 1) j) (M (a + 2) j)) E k) L ((fun j => M (a + 3) j), -1)).1 j) → Q (fo (shG (fun j => worth (M (a + 1) j) (M (a + 2) j)) E k) L ((fun j => M (a + 3) j), -1)).2 303 (PP w) M') : OkI yX8_shareOut cX8_shareOut 7 2 0 0 (some .int) [vR 273, vR a, vI ((E : Nat) : Int), vI k] 303 (PP w) M Q := by
  refine OkI.of (by decide +kernel) (by decide +kernel) (Nat.le_of_ble_eq_true rfl) ?_
  refine go_eq (lv' := [(0, vR 273), (1, vR a), (2, vI ((E : Nat) : Int)), (3, vI k)]) rfl rfl rfl rfl rfl ?_
  have hL12 := hL.2.1
  have hasc := ha.sc (j := 6) (by omega)
  have hW : ∀ j, j < L → 0 ≤ (fun j => worth (M (a + 1) j) (M (a + 2) j)) j ∧ (fun j => worth (M (a + 1) j) (M (a + 2) j)) j ≤ 40 := fun j hj => by have h9 := hL.2.2.1 j hj; have h8 := worth_in (c := M (a + 1) j) h9.1; exact ⟨h8.1, by show worth (M (a + 1) j) (M (a + 2) j) ≤ 40; omega⟩
  refine go_aload_n 1 dX8_shareOut_0 rfl rfl ?_
  refine go_getR (r := (a + 3)) dX8_shareOut_1 lk8_56 ha.k0 ha.l0 rfl (ha.p3 _) ?_
  refine go_iconst dX8_shareOut_4 (by decide) ?_
  refine go_aload_n 0 dX8_shareOut_5 rfl rfl ?_
  refine go_getR (r := 276) dX8_shareOut_6 lk8_18.get kd_273 (by omega) rfl (pp_273_2 w) ?_
  refine go_iconst dX8_shareOut_9 (by decide) ?_
  refine go_iconst dX8_shareOut_10 (by decide) ?_
  refine gx_copy 0 0 5 dX8_shareOut_11 ac8_59 (by decide) ha.k3 kd_276 ha.l3 (by omega) rfl ha.n3 ln_276 (by omega) (by omega) (by omega) (by omega) (by omega) (Nat.le_of_ble_eq_true rfl) ?_
  refine go_iconst dX8_shareOut_14 (by decide) ?_
  refine go_istore (lv' := [(4, vI (-1)), (0, vR 273), (1, vR a), (2, vI ((E : Nat) : Int)), (3, vI k)]) dX8_shareOut_15 (by decide) rfl ?_
  refine go_iconst dX8_shareOut_17 (by decide) ?_
  refine go_istore (lv' := [(5, vI 0), (4, vI (-1)), (0, vR 273), (1, vR a), (2, vI ((E : Nat) : Int)), (3, vI k)]) dX8_shareOut_18 (by decide) rfl ?_
  refine go_lv [0, 1, 2, 3, 4, 5] rfl ?_
  refine lp_X8_shareOut ha hL hE hg hQ (L + 1) 0 (by omega) (by omega) _ ((Sc.rf M).cp (by omega)) (fun j hj => ?_)
  exact (cp2_in (by omega) (by omega)).trans (by rw [show 0 + (j - 0) = j by omega]; rfl)

def bitsJ (z : Nat) : Nat := ((((((((z - (z / 2 &&& 1431655765)) &&& 858993459) + (((z - (z / 2 &&& 1431655765)) / 4) &&& 858993459)) + ((((z - (z / 2 &&& 1431655765)) &&& 858993459) + (((z - (z / 2 &&& 1431655765)) / 4) &&& 858993459)) / 16)) &&& 252645135) + ((((((z - (z / 2 &&& 1431655765)) &&& 858993459) + (((z - (z / 2 &&& 1431655765)) / 4) &&& 858993459)) + ((((z - (z / 2 &&& 1431655765)) &&& 858993459) + (((z - (z / 2 &&& 1431655765)) / 4) &&& 858993459)) / 16)) &&& 252645135) / 256)) + (((((((z - (z / 2 &&& 1431655765)) &&& 858993459) + (((z - (z / 2 &&& 1431655765)) / 4) &&& 858993459)) + ((((z - (z / 2 &&& 1431655765)) &&& 858993459) + (((z - (z / 2 &&& 1431655765)) / 4) &&& 858993459)) / 16)) &&& 252645135) + ((((((z - (z / 2 &&& 1431655765)) &&& 858993459) + (((z - (z / 2 &&& 1431655765)) / 4) &&& 858993459)) + ((((z - (z / 2 &&& 1431655765)) &&& 858993459) + (((z - (z / 2 &&& 1431655765)) / 4) &&& 858993459)) / 16)) &&& 252645135) / 256)) / 65536)) &&& 63)
set_option maxHeartbeats 4000000 in
set_option maxRecDepth 100000 in
theorem ok_J6_bitCount_0f7a4 {w z : Nat} {M : inm} {Q : Int → Nat → rfm → inm → Prop} (hz : z < 64) (hQ : Q ((bitsJ z : Nat) : Int) 303 (PP w) M) : OkI yJ6_bitCount_0f7a4 cJ6_bitCount_0f7a4 1 0 0 0 (some .int) [vI ((z : Nat) : Int)] 303 (PP w) M Q := by
  refine OkI.of (by decide +kernel) (by decide +kernel) (Nat.le_of_ble_eq_true rfl) ?_
  refine go_eq (lv' := [(0, vI ((z : Nat) : Int))]) rfl rfl rfl rfl rfl ?_
  refine go_iload_n 0 dJ6_bitCount_0f7a4_0 rfl rfl ?_
  refine go_iload_n 0 dJ6_bitCount_0f7a4_1 rfl rfl ?_
  refine go_iconst dJ6_bitCount_0f7a4_2 (by decide) ?_
  refine gx_iushr (a := z) (c := 2) 1 dJ6_bitCount_0f7a4_3 (by omega) (by decide) (by decide) (by decide) ?_
  refine go_ldcw dJ6_bitCount_0f7a4_4 ikJ6_265 (by decide) ?_
  refine gx_iand (a := z / 2) (b := 1431655765) dJ6_bitCount_0f7a4_7 (by omega) (by omega) ?_
  have n1 := Nat.and_le_left (n := z / 2) (m := 1431655765)
  have n2 := Nat.and_le_right (n := z / 2) (m := 1431655765)
  refine gx_isub (v := ((z - (z / 2 &&& 1431655765) : Nat) : Int)) dJ6_bitCount_0f7a4_8 (by omega) ⟨by omega, by omega⟩ ?_
  refine go_istore_n (lv' := [(0, vI ((z - (z / 2 &&& 1431655765) : Nat) : Int))]) dJ6_bitCount_0f7a4_9 rfl (by decide) rfl ?_
  refine go_iload_n 0 dJ6_bitCount_0f7a4_10 rfl rfl ?_
  refine go_ldcw dJ6_bitCount_0f7a4_11 ikJ6_266 (by decide) ?_
  refine gx_iand (a := z - (z / 2 &&& 1431655765)) (b := 858993459) dJ6_bitCount_0f7a4_14 (by omega) (by omega) ?_
  have n3 := Nat.and_le_left (n := z - (z / 2 &&& 1431655765)) (m := 858993459)
  have n4 := Nat.and_le_right (n := z - (z / 2 &&& 1431655765)) (m := 858993459)
  refine go_iload_n 0 dJ6_bitCount_0f7a4_15 rfl rfl ?_
  refine go_iconst dJ6_bitCount_0f7a4_16 (by decide) ?_
  refine gx_iushr (a := z - (z / 2 &&& 1431655765)) (c := 4) 2 dJ6_bitCount_0f7a4_17 (by omega) (by decide) (by decide) (by decide) ?_
  refine go_ldcw dJ6_bitCount_0f7a4_18 ikJ6_266 (by decide) ?_
  refine gx_iand (a := (z - (z / 2 &&& 1431655765)) / 4) (b := 858993459) dJ6_bitCount_0f7a4_21 (by omega) (by omega) ?_
  have n5 := Nat.and_le_left (n := (z - (z / 2 &&& 1431655765)) / 4) (m := 858993459)
  have n6 := Nat.and_le_right (n := (z - (z / 2 &&& 1431655765)) / 4) (m := 858993459)
  refine gx_iadd (v := ((((z - (z / 2 &&& 1431655765)) &&& 858993459) + (((z - (z / 2 &&& 1431655765)) / 4) &&& 858993459) : Nat) : Int)) dJ6_bitCount_0f7a4_22 (by omega) ⟨by omega, by omega⟩ ?_
  refine go_istore_n (lv' := [(0, vI ((((z - (z / 2 &&& 1431655765)) &&& 858993459) + (((z - (z / 2 &&& 1431655765)) / 4) &&& 858993459) : Nat) : Int))]) dJ6_bitCount_0f7a4_23 rfl (by decide) rfl ?_
  refine go_iload_n 0 dJ6_bitCount_0f7a4_24 rfl rfl ?_
  refine go_iload_n 0 dJ6_bitCount_0f7a4_25 rfl rfl ?_
  refine go_iconst dJ6_bitCount_0f7a4_26 (by decide) ?_
  refine gx_iushr (a := ((z - (z / 2 &&& 1431655765)) &&& 858993459) + (((z - (z / 2 &&& 1431655765)) / 4) &&& 858993459)) (c := 16) 4 dJ6_bitCount_0f7a4_27 (by omega) (by decide) (by decide) (by decide) ?_
  refine gx_iadd (v := (((((z - (z / 2 &&& 1431655765)) &&& 858993459) + (((z - (z / 2 &&& 1431655765)) / 4) &&& 858993459)) + ((((z - (z / 2 &&& 1431655765)) &&& 858993459) + (((z - (z / 2 &&& 1431655765)) / 4) &&& 858993459)) / 16) : Nat) : Int)) dJ6_bitCount_0f7a4_28 (by omega) ⟨by omega, by omega⟩ ?_
  refine go_ldcw dJ6_bitCount_0f7a4_29 ikJ6_267 (by decide) ?_
  refine gx_iand (a := (((z - (z / 2 &&& 1431655765)) &&& 858993459) + (((z - (z / 2 &&& 1431655765)) / 4) &&& 858993459)) + ((((z - (z / 2 &&& 1431655765)) &&& 858993459) + (((z - (z / 2 &&& 1431655765)) / 4) &&& 858993459)) / 16)) (b := 252645135) dJ6_bitCount_0f7a4_32 (by omega) (by omega) ?_
  have n7 := Nat.and_le_left (n := (((z - (z / 2 &&& 1431655765)) &&& 858993459) + (((z - (z / 2 &&& 1431655765)) / 4) &&& 858993459)) + ((((z - (z / 2 &&& 1431655765)) &&& 858993459) + (((z - (z / 2 &&& 1431655765)) / 4) &&& 858993459)) / 16)) (m := 252645135)
  have n8 := Nat.and_le_right (n := (((z - (z / 2 &&& 1431655765)) &&& 858993459) + (((z - (z / 2 &&& 1431655765)) / 4) &&& 858993459)) + ((((z - (z / 2 &&& 1431655765)) &&& 858993459) + (((z - (z / 2 &&& 1431655765)) / 4) &&& 858993459)) / 16)) (m := 252645135)
  refine go_istore_n (lv' := [(0, vI ((((((z - (z / 2 &&& 1431655765)) &&& 858993459) + (((z - (z / 2 &&& 1431655765)) / 4) &&& 858993459)) + ((((z - (z / 2 &&& 1431655765)) &&& 858993459) + (((z - (z / 2 &&& 1431655765)) / 4) &&& 858993459)) / 16)) &&& 252645135 : Nat) : Int))]) dJ6_bitCount_0f7a4_33 rfl (by decide) rfl ?_
  refine go_iload_n 0 dJ6_bitCount_0f7a4_34 rfl rfl ?_
  refine go_iload_n 0 dJ6_bitCount_0f7a4_35 rfl rfl ?_
  refine go_bipush dJ6_bitCount_0f7a4_36 (by decide) (by decide) ?_
  refine gx_iushr (a := (((((z - (z / 2 &&& 1431655765)) &&& 858993459) + (((z - (z / 2 &&& 1431655765)) / 4) &&& 858993459)) + ((((z - (z / 2 &&& 1431655765)) &&& 858993459) + (((z - (z / 2 &&& 1431655765)) / 4) &&& 858993459)) / 16)) &&& 252645135)) (c := 256) 8 dJ6_bitCount_0f7a4_38 (by omega) (by decide) (by decide) (by decide) ?_
  refine gx_iadd (v := (((((((z - (z / 2 &&& 1431655765)) &&& 858993459) + (((z - (z / 2 &&& 1431655765)) / 4) &&& 858993459)) + ((((z - (z / 2 &&& 1431655765)) &&& 858993459) + (((z - (z / 2 &&& 1431655765)) / 4) &&& 858993459)) / 16)) &&& 252645135) + ((((((z - (z / 2 &&& 1431655765)) &&& 858993459) + (((z - (z / 2 &&& 1431655765)) / 4) &&& 858993459)) + ((((z - (z / 2 &&& 1431655765)) &&& 858993459) + (((z - (z / 2 &&& 1431655765)) / 4) &&& 858993459)) / 16)) &&& 252645135) / 256) : Nat) : Int)) dJ6_bitCount_0f7a4_39 (by omega) ⟨by omega, by omega⟩ ?_
  refine go_istore_n (lv' := [(0, vI (((((((z - (z / 2 &&& 1431655765)) &&& 858993459) + (((z - (z / 2 &&& 1431655765)) / 4) &&& 858993459)) + ((((z - (z / 2 &&& 1431655765)) &&& 858993459) + (((z - (z / 2 &&& 1431655765)) / 4) &&& 858993459)) / 16)) &&& 252645135) + ((((((z - (z / 2 &&& 1431655765)) &&& 858993459) + (((z - (z / 2 &&& 1431655765)) / 4) &&& 858993459)) + ((((z - (z / 2 &&& 1431655765)) &&& 858993459) + (((z - (z / 2 &&& 1431655765)) / 4) &&& 858993459)) / 16)) &&& 252645135) / 256) : Nat) : Int))]) dJ6_bitCount_0f7a4_40 rfl (by decide) rfl ?_
  refine go_iload_n 0 dJ6_bitCount_0f7a4_41 rfl rfl ?_
  refine go_iload_n 0 dJ6_bitCount_0f7a4_42 rfl rfl ?_
  refine go_bipush dJ6_bitCount_0f7a4_43 (by decide) (by decide) ?_
  refine gx_iushr (a := (((((z - (z / 2 &&& 1431655765)) &&& 858993459) + (((z - (z / 2 &&& 1431655765)) / 4) &&& 858993459)) + ((((z - (z / 2 &&& 1431655765)) &&& 858993459) + (((z - (z / 2 &&& 1431655765)) / 4) &&& 858993459)) / 16)) &&& 252645135) + ((((((z - (z / 2 &&& 1431655765)) &&& 858993459) + (((z - (z / 2 &&& 1431655765)) / 4) &&& 858993459)) + ((((z - (z / 2 &&& 1431655765)) &&& 858993459) + (((z - (z / 2 &&& 1431655765)) / 4) &&& 858993459)) / 16)) &&& 252645135) / 256)) (c := 65536) 16 dJ6_bitCount_0f7a4_45 (by omega) (by decide) (by decide) (by decide) ?_
  refine gx_iadd (v := ((((((((z - (z / 2 &&& 1431655765)) &&& 858993459) + (((z - (z / 2 &&& 1431655765)) / 4) &&& 858993459)) + ((((z - (z / 2 &&& 1431655765)) &&& 858993459) + (((z - (z / 2 &&& 1431655765)) / 4) &&& 858993459)) / 16)) &&& 252645135) + ((((((z - (z / 2 &&& 1431655765)) &&& 858993459) + (((z - (z / 2 &&& 1431655765)) / 4) &&& 858993459)) + ((((z - (z / 2 &&& 1431655765)) &&& 858993459) + (((z - (z / 2 &&& 1431655765)) / 4) &&& 858993459)) / 16)) &&& 252645135) / 256)) + (((((((z - (z / 2 &&& 1431655765)) &&& 858993459) + (((z - (z / 2 &&& 1431655765)) / 4) &&& 858993459)) + ((((z - (z / 2 &&& 1431655765)) &&& 858993459) + (((z - (z / 2 &&& 1431655765)) / 4) &&& 858993459)) / 16)) &&& 252645135) + ((((((z - (z / 2 &&& 1431655765)) &&& 858993459) + (((z - (z / 2 &&& 1431655765)) / 4) &&& 858993459)) + ((((z - (z / 2 &&& 1431655765)) &&& 858993459) + (((z - (z / 2 &&& 1431655765)) / 4) &&& 858993459)) / 16)) &&& 252645135) / 256)) / 65536) : Nat) : Int)) dJ6_bitCount_0f7a4_46 (by omega) ⟨by omega, by omega⟩ ?_
  refine go_istore_n (lv' := [(0, vI ((((((((z - (z / 2 &&& 1431655765)) &&& 858993459) + (((z - (z / 2 &&& 1431655765)) / 4) &&& 858993459)) + ((((z - (z / 2 &&& 1431655765)) &&& 858993459) + (((z - (z / 2 &&& 1431655765)) / 4) &&& 858993459)) / 16)) &&& 252645135) + ((((((z - (z / 2 &&& 1431655765)) &&& 858993459) + (((z - (z / 2 &&& 1431655765)) / 4) &&& 858993459)) + ((((z - (z / 2 &&& 1431655765)) &&& 858993459) + (((z - (z / 2 &&& 1431655765)) / 4) &&& 858993459)) / 16)) &&& 252645135) / 256)) + (((((((z - (z / 2 &&& 1431655765)) &&& 858993459) + (((z - (z / 2 &&& 1431655765)) / 4) &&& 858993459)) + ((((z - (z / 2 &&& 1431655765)) &&& 858993459) + (((z - (z / 2 &&& 1431655765)) / 4) &&& 858993459)) / 16)) &&& 252645135) + ((((((z - (z / 2 &&& 1431655765)) &&& 858993459) + (((z - (z / 2 &&& 1431655765)) / 4) &&& 858993459)) + ((((z - (z / 2 &&& 1431655765)) &&& 858993459) + (((z - (z / 2 &&& 1431655765)) / 4) &&& 858993459)) / 16)) &&& 252645135) / 256)) / 65536) : Nat) : Int))]) dJ6_bitCount_0f7a4_47 rfl (by decide) rfl ?_
  refine go_iload_n 0 dJ6_bitCount_0f7a4_48 rfl rfl ?_
  refine go_bipush dJ6_bitCount_0f7a4_49 (by decide) (by decide) ?_
  refine gx_iand (a := ((((((z - (z / 2 &&& 1431655765)) &&& 858993459) + (((z - (z / 2 &&& 1431655765)) / 4) &&& 858993459)) + ((((z - (z / 2 &&& 1431655765)) &&& 858993459) + (((z - (z / 2 &&& 1431655765)) / 4) &&& 858993459)) / 16)) &&& 252645135) + ((((((z - (z / 2 &&& 1431655765)) &&& 858993459) + (((z - (z / 2 &&& 1431655765)) / 4) &&& 858993459)) + ((((z - (z / 2 &&& 1431655765)) &&& 858993459) + (((z - (z / 2 &&& 1431655765)) / 4) &&& 858993459)) / 16)) &&& 252645135) / 256)) + (((((((z - (z / 2 &&& 1431655765)) &&& 858993459) + (((z - (z / 2 &&& 1431655765)) / 4) &&& 858993459)) + ((((z - (z / 2 &&& 1431655765)) &&& 858993459) + (((z - (z / 2 &&& 1431655765)) / 4) &&& 858993459)) / 16)) &&& 252645135) + ((((((z - (z / 2 &&& 1431655765)) &&& 858993459) + (((z - (z / 2 &&& 1431655765)) / 4) &&& 858993459)) + ((((z - (z / 2 &&& 1431655765)) &&& 858993459) + (((z - (z / 2 &&& 1431655765)) / 4) &&& 858993459)) / 16)) &&& 252645135) / 256)) / 65536)) (b := 63) dJ6_bitCount_0f7a4_51 (by omega) (by omega) ?_
  have n9 := Nat.and_le_left (n := ((((((z - (z / 2 &&& 1431655765)) &&& 858993459) + (((z - (z / 2 &&& 1431655765)) / 4) &&& 858993459)) + ((((z - (z / 2 &&& 1431655765)) &&& 858993459) + (((z - (z / 2 &&& 1431655765)) / 4) &&& 858993459)) / 16)) &&& 252645135) + ((((((z - (z / 2 &&& 1431655765)) &&& 858993459) + (((z - (z / 2 &&& 1431655765)) / 4) &&& 858993459)) + ((((z - (z / 2 &&& 1431655765)) &&& 858993459) + (((z - (z / 2 &&& 1431655765)) / 4) &&& 858993459)) / 16)) &&& 252645135) / 256)) + (((((((z - (z / 2 &&& 1431655765)) &&& 858993459) + (((z - (z / 2 &&& 1431655765)) / 4) &&& 858993459)) + ((((z - (z / 2 &&& 1431655765)) &&& 858993459) + (((z - (z / 2 &&& 1431655765)) / 4) &&& 858993459)) / 16)) &&& 252645135) + ((((((z - (z / 2 &&& 1431655765)) &&& 858993459) + (((z - (z / 2 &&& 1431655765)) / 4) &&& 858993459)) + ((((z - (z / 2 &&& 1431655765)) &&& 858993459) + (((z - (z / 2 &&& 1431655765)) / 4) &&& 858993459)) / 16)) &&& 252645135) / 256)) / 65536)) (m := 63)
  have n10 := Nat.and_le_right (n := ((((((z - (z / 2 &&& 1431655765)) &&& 858993459) + (((z - (z / 2 &&& 1431655765)) / 4) &&& 858993459)) + ((((z - (z / 2 &&& 1431655765)) &&& 858993459) + (((z - (z / 2 &&& 1431655765)) / 4) &&& 858993459)) / 16)) &&& 252645135) + ((((((z - (z / 2 &&& 1431655765)) &&& 858993459) + (((z - (z / 2 &&& 1431655765)) / 4) &&& 858993459)) + ((((z - (z / 2 &&& 1431655765)) &&& 858993459) + (((z - (z / 2 &&& 1431655765)) / 4) &&& 858993459)) / 16)) &&& 252645135) / 256)) + (((((((z - (z / 2 &&& 1431655765)) &&& 858993459) + (((z - (z / 2 &&& 1431655765)) / 4) &&& 858993459)) + ((((z - (z / 2 &&& 1431655765)) &&& 858993459) + (((z - (z / 2 &&& 1431655765)) / 4) &&& 858993459)) / 16)) &&& 252645135) + ((((((z - (z / 2 &&& 1431655765)) &&& 858993459) + (((z - (z / 2 &&& 1431655765)) / 4) &&& 858993459)) + ((((z - (z / 2 &&& 1431655765)) &&& 858993459) + (((z - (z / 2 &&& 1431655765)) / 4) &&& 858993459)) / 16)) &&& 252645135) / 256)) / 65536)) (m := 63)
  refine go_iret dJ6_bitCount_0f7a4_52 rfl rfl ⟨_, rfl, ?_⟩
  exact hQ

theorem bits_eq : ∀ z, z < 64 → bitsJ z = cntTo (fun t => decide (¬ z &&& 2 ^ t = 0)) 6 := by
  have h : ∀ z, z < 64 → bitsJ z = cntTo (fun t => decide (¬ z &&& 2 ^ t = 0)) 6 := by decide +kernel
  exact h
