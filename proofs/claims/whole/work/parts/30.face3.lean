/-! ===== OnionProbate: the rest of its face but years and texts ===== -/
set_option maxHeartbeats 4000000 in
set_option maxRecDepth 100000 in
theorem ok_X9_nextKind {w L T : Nat} {lt : Nat → Nat} {M : inm} {a : Int} {Q : Int → Nat → rfm → inm → Prop} (hw : Cs w) (hL : Lay M 30 L) (hT : Tys M w T lt) (hb : ¬ (0 ≤ a ∧ a < 5) → Q (-1000000002) 303 (PP w) M) (hQ : 0 ≤ a ∧ a < 5 → Q ((cntTo (nextP lt (fun t k => M (w + 7 + t) k) (fun j => M 31 j) L a) T : Nat) : Int) 303 (PP w) M) : OkI yX9_nextKind cX9_nextKind 2 3 0 0 (some .int) [vR 0, vI a] 303 (PP w) M Q := by
  refine OkI.of (by decide +kernel) (by decide +kernel) (Nat.le_of_ble_eq_true rfl) ?_
  refine go_eq (lv' := [(0, vR 0), (1, vI a)]) rfl rfl rfl rfl rfl ?_
  refine go_iload_n 1 dX9_nextKind_0 rfl rfl ?_
  refine go_if_lt (tgt := 9) dX9_nextKind_1 rfl (fun c1 => ?_) (fun c1 => ?_)
  · refine go_ldc dX9_nextKind_9 ik9_75 (by decide) ?_
    refine go_iret dX9_nextKind_11 rfl rfl ⟨_, rfl, ?_⟩
    first | exact hb (by omega) | exact hQ (by omega)
  · refine go_iload_n 1 dX9_nextKind_4 rfl rfl ?_
    refine go_iconst dX9_nextKind_5 (by decide) ?_
    refine go_icmp_lt (tgt := 12) dX9_nextKind_6 rfl (fun c2 => ?_) (fun c2 => ?_)
    · refine go_aload_n 0 dX9_nextKind_12 rfl rfl ?_
      refine go_getR (r := w) dX9_nextKind_13 lk9_19.get kd_0 (by omega) rfl (pp_0_1 w) ?_
      refine go_aload_n 0 dX9_nextKind_16 rfl rfl ?_
      refine go_getR (r := 30) dX9_nextKind_17 lk9_29.get kd_0 (by omega) rfl (pp_0_3 w) ?_
      refine go_iload_n 1 dX9_nextKind_20 rfl rfl ?_
      refine go_callVI (av := [vR 30, vI a]) (st := []) (a := w) (mc2 := 0) (ms2 := 0) dX9_nextKind_21 cw9_255 (by decide) rfl rfl (Nat.le_of_ble_eq_true rfl) rfl rfl hw.k0 ⟨_, _, rfl⟩ (by decide) hw.l0 (ok_X1_countNext On_30 hw hT hL ?_)
      refine go_iret dX9_nextKind_24 rfl rfl ⟨_, rfl, ?_⟩
      first | exact hb (by omega) | exact hQ (by omega)
    · refine go_ldc dX9_nextKind_9 ik9_75 (by decide) ?_
      refine go_iret dX9_nextKind_11 rfl rfl ⟨_, rfl, ?_⟩
      first | exact hb (by omega) | exact hQ (by omega)

set_option maxHeartbeats 4000000 in
set_option maxRecDepth 100000 in
theorem ok_X9_allows_in {w L T u : Nat} {lt : Nat → Nat} {M : inm} {Q : Int → Nat → rfm → inm → Prop} (hw : Cs w) (hL : Lay M 30 L) (hT : Tys M w T lt) (hu : u < 5) (hQ : Q ((orTo (underG u (orTo (fun t => orTo (lawG (fun k => M (w + 7 + t) k)) (max (lt t) 1)) T) (fun j => M 31 j)) L : Nat) : Int) 303 (PP w) M) : OkI yX9_allows cX9_allows 2 2 0 0 (some .int) [vR 0, vI ((u : Nat) : Int)] 303 (PP w) M Q := by
  refine OkI.of (by decide +kernel) (by decide +kernel) (Nat.le_of_ble_eq_true rfl) ?_
  refine go_eq (lv' := [(0, vR 0), (1, vI ((u : Nat) : Int))]) rfl rfl rfl rfl rfl ?_
  refine go_iload_n 1 dX9_allows_0 rfl rfl ?_
  refine go_if_lt (tgt := 9) dX9_allows_1 rfl (fun c1 => ?_) (fun c1 => ?_)
  · exact absurd c1 (by omega)
  · refine go_iload_n 1 dX9_allows_4 rfl rfl ?_
    refine go_iconst dX9_allows_5 (by decide) ?_
    refine go_icmp_lt (tgt := 12) dX9_allows_6 rfl (fun c2 => ?_) (fun c2 => ?_)
    · refine go_aload_n 0 dX9_allows_12 rfl rfl ?_
      refine go_getR (r := 30) dX9_allows_13 lk9_29.get kd_0 (by omega) rfl (pp_0_3 w) ?_
      refine go_iload_n 1 dX9_allows_16 rfl rfl ?_
      refine go_aload_n 0 dX9_allows_17 rfl rfl ?_
      refine go_getR (r := w) dX9_allows_18 lk9_19.get kd_0 (by omega) rfl (pp_0_1 w) ?_
      refine go_callVI (av := []) (st := [vI ((u : Nat) : Int), vR 30]) (a := w) (mc2 := 0) (ms2 := 0) dX9_allows_21 cw9_258 (by decide) rfl rfl (Nat.le_of_ble_eq_true rfl) rfl rfl hw.k0 ⟨_, _, rfl⟩ (by decide) hw.l0 (ok_X1_lawOfTypes hw hT ?_)
      refine go_callVI (av := [vI ((u : Nat) : Int), vI ((orTo (fun t => orTo (lawG (fun k => M (w + 7 + t) k)) (max (lt t) 1)) T : Nat) : Int)]) (st := []) (a := 30) (mc2 := 0) (ms2 := 0) dX9_allows_24 cw9_261 (by decide) rfl rfl (Nat.le_of_ble_eq_true rfl) rfl rfl kd_30 ⟨_, _, rfl⟩ (by decide) (by omega) (ok_X6_layersUnder (u := u) (l := orTo (fun t => orTo (lawG (fun k => M (w + 7 + t) k)) (max (lt t) 1)) T) On_30 hL (by omega) ?_)
      refine go_iret dX9_allows_27 rfl rfl ⟨_, rfl, ?_⟩
      exact hQ
    · exact absurd c2 (by omega)

set_option maxHeartbeats 4000000 in
set_option maxRecDepth 100000 in
theorem ok_X9_allows_out {w : Nat} {M : inm} {a : Int} {Q : Int → Nat → rfm → inm → Prop} (hb : ¬ (0 ≤ a ∧ a < 5)) (hQ : Q (-1000000002) 303 (PP w) M) : OkI yX9_allows cX9_allows 2 2 0 0 (some .int) [vR 0, vI a] 303 (PP w) M Q := by
  refine OkI.of (by decide +kernel) (by decide +kernel) (Nat.le_of_ble_eq_true rfl) ?_
  refine go_eq (lv' := [(0, vR 0), (1, vI a)]) rfl rfl rfl rfl rfl ?_
  refine go_iload_n 1 dX9_allows_0 rfl rfl ?_
  refine go_if_lt (tgt := 9) dX9_allows_1 rfl (fun c1 => ?_) (fun c1 => ?_)
  · refine go_ldc dX9_allows_9 ik9_75 (by decide) ?_
    refine go_iret dX9_allows_11 rfl rfl ⟨_, rfl, ?_⟩
    exact hQ
  · refine go_iload_n 1 dX9_allows_4 rfl rfl ?_
    refine go_iconst dX9_allows_5 (by decide) ?_
    refine go_icmp_lt (tgt := 12) dX9_allows_6 rfl (fun c2 => ?_) (fun c2 => ?_)
    · exfalso; omega
    · refine go_ldc dX9_allows_9 ik9_75 (by decide) ?_
      refine go_iret dX9_allows_11 rfl rfl ⟨_, rfl, ?_⟩
      exact hQ

theorem long_in {c : Nat → Int} {L : Nat} : ∀ n, n ≤ L → ((fo (longG c L) n (-1, 0)).1 = -1 ∨ (0 ≤ (fo (longG c L) n (-1, 0)).1 ∧ (fo (longG c L) n (-1, 0)).1 < n))
  | 0, _ => Or.inl rfl
  | n + 1, hn => by
    have ih := long_in (c := c) (L := L) n (by omega)
    rw [fo, longG]
    split
    · exact Or.inr ⟨by show (0 : Int) ≤ (n : Int); omega, by show (n : Int) < ((n + 1 : Nat) : Int); omega⟩
    · omega
set_option maxHeartbeats 4000000 in
set_option maxRecDepth 100000 in
theorem ok_X9_run {w L : Nat} {M : inm} {a : Int} {Q : Int → Nat → rfm → inm → Prop} (hL : Lay M 30 L) (hb : ¬ (0 ≤ a ∧ a ≤ 1) → Q (-1000000002) 303 (PP w) M) (hQ : 0 ≤ a ∧ a ≤ 1 → Q (sel [if (fo (longG (fun j => M 31 j) L) L (-1, 0)).1 = -1 then 0 else (((rowL (fun j => M 31 j) (fo (longG (fun j => M 31 j) L) L (-1, 0)).1.toNat (L - ((fo (longG (fun j => M 31 j) L) L (-1, 0)).1.toNat + 1)) ((fo (longG (fun j => M 31 j) L) L (-1, 0)).1.toNat + 1)) : Nat) : Int), (fo (longG (fun j => M 31 j) L) L (-1, 0)).1] a (-1000000002)) 303 (PP w) M) : OkI yX9_run cX9_run 3 3 0 0 (some .int) [vR 0, vI a] 303 (PP w) M Q := by
  refine OkI.of (by decide +kernel) (by decide +kernel) (Nat.le_of_ble_eq_true rfl) ?_
  refine go_eq (lv' := [(0, vR 0), (1, vI a)]) rfl rfl rfl rfl rfl ?_
  have hlg := long_in (c := (fun j => M 31 j)) (L := L) L (Nat.le_refl L)
  refine go_iload_n 1 dX9_run_0 rfl rfl ?_
  refine go_if_lt (tgt := 9) dX9_run_1 rfl (fun c1 => ?_) (fun c1 => ?_)
  · refine go_ldc dX9_run_9 ik9_75 (by decide) ?_
    refine go_iret dX9_run_11 rfl rfl ⟨_, rfl, ?_⟩
    first | exact hb (by omega) | (have hQ := hQ (by omega); rw [sel_at 1 (by omega) rfl] at hQ; exact hQ) | (have hQ := hQ (by omega); rw [sel_at 0 (by omega) rfl] at hQ; first | (rw [if_pos (by omega)] at hQ; exact hQ) | (rw [if_neg (by omega)] at hQ; exact hQ))
  · refine go_iload_n 1 dX9_run_4 rfl rfl ?_
    refine go_iconst dX9_run_5 (by decide) ?_
    refine go_icmp_le (tgt := 12) dX9_run_6 rfl (fun c2 => ?_) (fun c2 => ?_)
    · refine go_aload_n 0 dX9_run_12 rfl rfl ?_
      refine go_getR (r := 30) dX9_run_13 lk9_29.get kd_0 (by omega) rfl (pp_0_3 w) ?_
      refine go_callVI (av := []) (st := []) (a := 30) (mc2 := 0) (ms2 := 0) dX9_run_16 cw9_264 (by decide) rfl rfl (Nat.le_of_ble_eq_true rfl) rfl rfl kd_30 ⟨_, _, rfl⟩ (by decide) (by omega) (ok_X6_startOfLongestRow On_30 hL ?_)
      refine go_istore_n (lv' := [(2, vI ((fo (longG (fun j => M 31 j) L) L (-1, 0)).1)), (0, vR 0), (1, vI a)]) dX9_run_19 rfl (by decide) rfl ?_
      refine go_iload_n 2 dX9_run_20 rfl rfl ?_
      refine go_iconst dX9_run_21 (by decide) ?_
      refine go_icmp_ne (tgt := 27) dX9_run_22 rfl (fun c3 => ?_) (fun c3 => ?_)
      · refine go_iload_n 0 dX9_run_27 rfl rfl ?_
        refine go_iconst dX9_run_28 (by decide) ?_
        refine go_icmp_ne (tgt := 36) dX9_run_29 rfl (fun c4 => ?_) (fun c4 => ?_)
        · refine go_lv [0, 1, 2] rfl ?_
          refine go_eq (lv' := [(2, vI (((fo (longG (fun j => M 31 j) L) L (-1, 0)).1.toNat : Nat) : Int)), (0, vR 0), (1, vI a)]) (by rw [show (((fo (longG (fun j => M 31 j) L) L (-1, 0)).1.toNat : Nat) : Int) = (fo (longG (fun j => M 31 j) L) L (-1, 0)).1 by omega]; rfl) rfl rfl rfl rfl ?_
          refine go_aload_n 1 dX9_run_36 rfl rfl ?_
          refine go_getR (r := 30) dX9_run_37 lk9_29.get kd_0 (by omega) rfl (pp_0_3 w) ?_
          refine go_iload_n 0 dX9_run_40 rfl rfl ?_
          refine go_callVI (av := [vI (((fo (longG (fun j => M 31 j) L) L (-1, 0)).1.toNat : Nat) : Int)]) (st := []) (a := 30) (mc2 := 0) (ms2 := 0) dX9_run_41 cw9_267 (by decide) rfl rfl (Nat.le_of_ble_eq_true rfl) rfl rfl kd_30 ⟨_, _, rfl⟩ (by decide) (by omega) (ok_X6_rowFrom (r := (fo (longG (fun j => M 31 j) L) L (-1, 0)).1.toNat) On_30 hL (by omega) ?_)
          refine go_iret dX9_run_44 rfl rfl ⟨_, rfl, ?_⟩
          first | exact hb (by omega) | (have hQ := hQ (by omega); rw [sel_at 1 (by omega) rfl] at hQ; exact hQ) | (have hQ := hQ (by omega); rw [sel_at 0 (by omega) rfl] at hQ; first | (rw [if_pos (by omega)] at hQ; exact hQ) | (rw [if_neg (by omega)] at hQ; exact hQ))
        · refine go_iconst dX9_run_32 (by decide) ?_
          refine go_goto (tgt := 44) dX9_run_33 rfl ?_
          refine go_iret dX9_run_44 rfl rfl ⟨_, rfl, ?_⟩
          first | exact hb (by omega) | (have hQ := hQ (by omega); rw [sel_at 1 (by omega) rfl] at hQ; exact hQ) | (have hQ := hQ (by omega); rw [sel_at 0 (by omega) rfl] at hQ; first | (rw [if_pos (by omega)] at hQ; exact hQ) | (rw [if_neg (by omega)] at hQ; exact hQ))
      · refine go_iload_n 0 dX9_run_25 rfl rfl ?_
        refine go_iret dX9_run_26 rfl rfl ⟨_, rfl, ?_⟩
        first | exact hb (by omega) | (have hQ := hQ (by omega); rw [sel_at 1 (by omega) rfl] at hQ; exact hQ) | (have hQ := hQ (by omega); rw [sel_at 0 (by omega) rfl] at hQ; first | (rw [if_pos (by omega)] at hQ; exact hQ) | (rw [if_neg (by omega)] at hQ; exact hQ))
    · refine go_ldc dX9_run_9 ik9_75 (by decide) ?_
      refine go_iret dX9_run_11 rfl rfl ⟨_, rfl, ?_⟩
      first | exact hb (by omega) | (have hQ := hQ (by omega); rw [sel_at 1 (by omega) rfl] at hQ; exact hQ) | (have hQ := hQ (by omega); rw [sel_at 0 (by omega) rfl] at hQ; first | (rw [if_pos (by omega)] at hQ; exact hQ) | (rw [if_neg (by omega)] at hQ; exact hQ))

theorem spread_congr {g g' : Nat → Int} : ∀ n, (∀ e, e < max n 1 → g e = g' e) → fo (fun e (s : Int × Int) => (min s.1 (g e), max s.2 (g e))) n (g 0, g 0) = fo (fun e (s : Int × Int) => (min s.1 (g' e), max s.2 (g' e))) n (g' 0, g' 0)
  | 0, h => by show (g 0, g 0) = (g' 0, g' 0); rw [h 0 (by omega)]
  | n + 1, h => by
    have ih := spread_congr n (fun e he => h e (by omega))
    rw [fo, fo, ih, h n (by omega)]
theorem spreadV_congr {g g' : Nat → Int} {n : Nat} (h : ∀ e, e < max n 1 → g e = g' e) : spreadV g n = spreadV g' n := by
  unfold spreadV
  rw [spread_congr n h]
set_option maxHeartbeats 4000000 in
set_option maxRecDepth 100000 in
theorem ok_X9_fair {w L E U : Nat} {M : inm} {a : Int} {Q : Int → Nat → rfm → inm → Prop} (hw : Cs w) (hL : Lay M 30 L) (hE : M w 3 = (E : Int) ∧ E ≤ 5) (hB : Bd M 30 U) (hb : ¬ a = -1 → ¬ (0 ≤ a ∧ a < (L : Int)) → Q (-1000000001) 303 (PP w) M) (he : (a = -1 ∨ (0 ≤ a ∧ a < (L : Int))) → E = 0 → Q (-1) 303 (PP w) M) (h1 : a = -1 → 1 ≤ E → ∀ M' : inm, Sc M M' → Q (spreadV (fo (shG (fun j => worth (M 31 j) (M 32 j)) E a) L ((fun j => M 33 j), -1)).1 E) 303 (PP w) M') (h2 : (0 ≤ a ∧ a < (L : Int)) → 1 ≤ E → ∀ M' : inm, Sc M M' → Q (fo (shG (fun j => worth (M 31 j) (M 32 j)) E a) L ((fun j => M 33 j), -1)).2 303 (PP w) M') : OkI yX9_fair cX9_fair 3 3 0 0 (some .int) [vR 0, vI a] 303 (PP w) M Q := by
  refine OkI.of (by decide +kernel) (by decide +kernel) (Nat.le_of_ble_eq_true rfl) ?_
  refine go_eq (lv' := [(0, vR 0), (1, vI a)]) rfl rfl rfl rfl rfl ?_
  have hw30 := kdw hw
  have hE5 := hE.2
  have hL12 := hL.2.1
  refine go_iload_n 1 dX9_fair_0 rfl rfl ?_
  refine go_iconst dX9_fair_1 (by decide) ?_
  refine go_icmp_eq (tgt := 19) dX9_fair_2 rfl (fun c1 => ?_) (fun c1 => ?_)
  · refine go_aload_n 0 dX9_fair_19 rfl rfl ?_
    refine go_getR (r := w) dX9_fair_20 lk9_19.get kd_0 (by omega) rfl (pp_0_1 w) ?_
    refine gx_getI (v := ((E : Nat) : Int)) dX9_fair_23 lk9_111.get hw.k0 hw.l0 rfl hE.1 ?_
    refine go_if_ne (tgt := 31) dX9_fair_26 rfl (fun c2 => ?_) (fun c2 => ?_)
    · refine go_aload_n 0 dX9_fair_31 rfl rfl ?_
      refine go_getR (r := 273) dX9_fair_32 lk9_64.get kd_0 (by omega) rfl (pp_0_8 w) ?_
      refine go_aload_n 0 dX9_fair_35 rfl rfl ?_
      refine go_getR (r := 30) dX9_fair_36 lk9_29.get kd_0 (by omega) rfl (pp_0_3 w) ?_
      refine go_aload_n 0 dX9_fair_39 rfl rfl ?_
      refine go_getR (r := w) dX9_fair_40 lk9_19.get kd_0 (by omega) rfl (pp_0_1 w) ?_
      refine gx_getI (v := ((E : Nat) : Int)) dX9_fair_43 lk9_111.get hw.k0 hw.l0 rfl hE.1 ?_
      refine go_iload_n 1 dX9_fair_46 rfl rfl ?_
      refine go_callVI (av := [vR 30, vI ((E : Nat) : Int), vI a]) (st := []) (a := 273) (mc2 := 0) (ms2 := 0) dX9_fair_47 cw9_270 (by decide) rfl rfl (Nat.le_of_ble_eq_true rfl) rfl rfl kd_273 ⟨_, _, rfl⟩ (by decide) (by omega) (ok_X8_shareOut On_30 hL (by omega) (fun e he => hB.1 e he) (fun M' hs h6 => ?_))
      have h6 : ∀ j, j < 5 → M' 276 j = (fo (shG (fun j => worth (M 31 j) (M 32 j)) E a) L ((fun j => M 33 j), -1)).1 j := h6
      have hsi := sh_in (W := (fun j => worth (M 31 j) (M 32 j))) (g := (fun j => M 33 j)) (E := E) (k := a) (fun e he => hB.1 e he) L (fun i hi => by have h9 := hL.2.2.1 i hi; have h8 := worth_in (c := M 31 i) h9.1; exact ⟨h8.1, Int.le_trans h8.2 (by have : M 32 i ≤ 20 := h9.2; show 2 * M 32 i ≤ 40; omega)⟩)
      refine go_istore_n (lv' := [(2, vI ((fo (shG (fun j => worth (M 31 j) (M 32 j)) E a) L ((fun j => M 33 j), -1)).2)), (0, vR 0), (1, vI a)]) dX9_fair_50 rfl (by decide) rfl ?_
      refine go_iload_n 2 dX9_fair_51 rfl rfl ?_
      refine go_iconst dX9_fair_52 (by decide) ?_
      refine go_icmp_ne (tgt := 76) dX9_fair_53 rfl (fun c3 => ?_) (fun c3 => ?_)
      · refine go_iload_n 0 dX9_fair_76 rfl rfl ?_
        refine go_iret dX9_fair_77 rfl rfl ⟨_, rfl, ?_⟩
        first | exact hb (by omega) (by omega) | exact he (by omega) (by omega) | exact h1 (by omega) (by omega) M' hs | exact h2 (by omega) (by omega) M' hs
      · refine go_aload_n 1 dX9_fair_56 rfl rfl ?_
        refine go_getR (r := 273) dX9_fair_57 lk9_64.get kd_0 (by omega) rfl (pp_0_8 w) ?_
        refine go_getR (r := 276) dX9_fair_60 lk9_273 kd_273 (by omega) rfl (pp_273_2 w) ?_
        refine go_aload_n 1 dX9_fair_63 rfl rfl ?_
        refine go_getR (r := w) dX9_fair_64 lk9_19.get kd_0 (by omega) rfl (pp_0_1 w) ?_
        refine gx_getI (v := ((E : Nat) : Int)) dX9_fair_67 lk9_111.get hw.k0 hw.l0 rfl (((hs w 3 (Or.inl (by omega))).trans hE.1)) ?_
        refine go_callSI (av := [vR 276, vI ((E : Nat) : Int)]) (st := []) (mc2 := 0) (ms2 := 0) dX9_fair_70 cw9_153 (by decide) rfl rfl (Nat.le_of_ble_eq_true rfl) rfl rfl (ok_X9_spread (M := M') (x := 276) ⟨kd_276, by omega, ln_276⟩ (by omega) (fun e he => by rw [h6 e he]; have := hsi e he; omega) ?_)
        rw [spreadV_congr (g := fun e => M' 276 e) (g' := (fo (shG (fun j => worth (M 31 j) (M 32 j)) E a) L ((fun j => M 33 j), -1)).1) (fun e he => h6 e (by omega))]
        refine go_goto (tgt := 77) dX9_fair_73 rfl ?_
        refine go_iret dX9_fair_77 rfl rfl ⟨_, rfl, ?_⟩
        first | exact hb (by omega) (by omega) | exact he (by omega) (by omega) | exact h1 (by omega) (by omega) M' hs | exact h2 (by omega) (by omega) M' hs
    · refine go_iconst dX9_fair_29 (by decide) ?_
      refine go_iret dX9_fair_30 rfl rfl ⟨_, rfl, ?_⟩
      first | exact hb (by omega) (by omega) | exact he (by omega) (by omega) | exact h1 (by omega) (by omega) M' hs | exact h2 (by omega) (by omega) M' hs
  · refine go_aload_n 0 dX9_fair_5 rfl rfl ?_
    refine go_getR (r := 30) dX9_fair_6 lk9_29.get kd_0 (by omega) rfl (pp_0_3 w) ?_
    refine go_iload_n 1 dX9_fair_9 rfl rfl ?_
    refine go_callVI (av := [vI a]) (st := []) (a := 30) (mc2 := 0) (ms2 := 0) dX9_fair_10 cw9_168 (by decide) rfl rfl (Nat.le_of_ble_eq_true rfl) rfl rfl kd_30 ⟨_, _, rfl⟩ (by decide) (by omega) (ok_X6_hasLayer On_30 (fun q1 q2 => ?_) (fun q => ?_))
    · rw [hL.1] at q2
      refine go_if_ne (tgt := 19) dX9_fair_13 rfl (fun c4 => ?_) (fun c4 => ?_)
      · refine go_aload_n 0 dX9_fair_19 rfl rfl ?_
        refine go_getR (r := w) dX9_fair_20 lk9_19.get kd_0 (by omega) rfl (pp_0_1 w) ?_
        refine gx_getI (v := ((E : Nat) : Int)) dX9_fair_23 lk9_111.get hw.k0 hw.l0 rfl hE.1 ?_
        refine go_if_ne (tgt := 31) dX9_fair_26 rfl (fun c5 => ?_) (fun c5 => ?_)
        · refine go_aload_n 0 dX9_fair_31 rfl rfl ?_
          refine go_getR (r := 273) dX9_fair_32 lk9_64.get kd_0 (by omega) rfl (pp_0_8 w) ?_
          refine go_aload_n 0 dX9_fair_35 rfl rfl ?_
          refine go_getR (r := 30) dX9_fair_36 lk9_29.get kd_0 (by omega) rfl (pp_0_3 w) ?_
          refine go_aload_n 0 dX9_fair_39 rfl rfl ?_
          refine go_getR (r := w) dX9_fair_40 lk9_19.get kd_0 (by omega) rfl (pp_0_1 w) ?_
          refine gx_getI (v := ((E : Nat) : Int)) dX9_fair_43 lk9_111.get hw.k0 hw.l0 rfl hE.1 ?_
          refine go_iload_n 1 dX9_fair_46 rfl rfl ?_
          refine go_callVI (av := [vR 30, vI ((E : Nat) : Int), vI a]) (st := []) (a := 273) (mc2 := 0) (ms2 := 0) dX9_fair_47 cw9_270 (by decide) rfl rfl (Nat.le_of_ble_eq_true rfl) rfl rfl kd_273 ⟨_, _, rfl⟩ (by decide) (by omega) (ok_X8_shareOut On_30 hL (by omega) (fun e he => hB.1 e he) (fun M' hs h6 => ?_))
          have h6 : ∀ j, j < 5 → M' 276 j = (fo (shG (fun j => worth (M 31 j) (M 32 j)) E a) L ((fun j => M 33 j), -1)).1 j := h6
          have hsi := sh_in (W := (fun j => worth (M 31 j) (M 32 j))) (g := (fun j => M 33 j)) (E := E) (k := a) (fun e he => hB.1 e he) L (fun i hi => by have h9 := hL.2.2.1 i hi; have h8 := worth_in (c := M 31 i) h9.1; exact ⟨h8.1, Int.le_trans h8.2 (by have : M 32 i ≤ 20 := h9.2; show 2 * M 32 i ≤ 40; omega)⟩)
          refine go_istore_n (lv' := [(2, vI ((fo (shG (fun j => worth (M 31 j) (M 32 j)) E a) L ((fun j => M 33 j), -1)).2)), (0, vR 0), (1, vI a)]) dX9_fair_50 rfl (by decide) rfl ?_
          refine go_iload_n 2 dX9_fair_51 rfl rfl ?_
          refine go_iconst dX9_fair_52 (by decide) ?_
          refine go_icmp_ne (tgt := 76) dX9_fair_53 rfl (fun c6 => ?_) (fun c6 => ?_)
          · refine go_iload_n 0 dX9_fair_76 rfl rfl ?_
            refine go_iret dX9_fair_77 rfl rfl ⟨_, rfl, ?_⟩
            first | exact hb (by omega) (by omega) | exact he (by omega) (by omega) | exact h1 (by omega) (by omega) M' hs | exact h2 (by omega) (by omega) M' hs
          · refine go_aload_n 1 dX9_fair_56 rfl rfl ?_
            refine go_getR (r := 273) dX9_fair_57 lk9_64.get kd_0 (by omega) rfl (pp_0_8 w) ?_
            refine go_getR (r := 276) dX9_fair_60 lk9_273 kd_273 (by omega) rfl (pp_273_2 w) ?_
            refine go_aload_n 1 dX9_fair_63 rfl rfl ?_
            refine go_getR (r := w) dX9_fair_64 lk9_19.get kd_0 (by omega) rfl (pp_0_1 w) ?_
            refine gx_getI (v := ((E : Nat) : Int)) dX9_fair_67 lk9_111.get hw.k0 hw.l0 rfl (((hs w 3 (Or.inl (by omega))).trans hE.1)) ?_
            refine go_callSI (av := [vR 276, vI ((E : Nat) : Int)]) (st := []) (mc2 := 0) (ms2 := 0) dX9_fair_70 cw9_153 (by decide) rfl rfl (Nat.le_of_ble_eq_true rfl) rfl rfl (ok_X9_spread (M := M') (x := 276) ⟨kd_276, by omega, ln_276⟩ (by omega) (fun e he => by rw [h6 e he]; have := hsi e he; omega) ?_)
            rw [spreadV_congr (g := fun e => M' 276 e) (g' := (fo (shG (fun j => worth (M 31 j) (M 32 j)) E a) L ((fun j => M 33 j), -1)).1) (fun e he => h6 e (by omega))]
            refine go_goto (tgt := 77) dX9_fair_73 rfl ?_
            refine go_iret dX9_fair_77 rfl rfl ⟨_, rfl, ?_⟩
            first | exact hb (by omega) (by omega) | exact he (by omega) (by omega) | exact h1 (by omega) (by omega) M' hs | exact h2 (by omega) (by omega) M' hs
        · refine go_iconst dX9_fair_29 (by decide) ?_
          refine go_iret dX9_fair_30 rfl rfl ⟨_, rfl, ?_⟩
          first | exact hb (by omega) (by omega) | exact he (by omega) (by omega) | exact h1 (by omega) (by omega) M' hs | exact h2 (by omega) (by omega) M' hs
      · exact absurd c4 (by omega)
    · rw [hL.1] at q
      refine go_if_ne (tgt := 19) dX9_fair_13 rfl (fun c7 => ?_) (fun c7 => ?_)
      · exact absurd rfl c7
      · refine go_ldc dX9_fair_16 ik9_172 (by decide) ?_
        refine go_iret dX9_fair_18 rfl rfl ⟨_, rfl, ?_⟩
        first | exact hb (by omega) (by omega) | exact he (by omega) (by omega) | exact h1 (by omega) (by omega) M' hs | exact h2 (by omega) (by omega) M' hs

def dryO (q : Int) : Nat → Int
  | 0 => 1000000000
  | n + 1 => dryO q n * q / 100
theorem dryO_in {q : Int} (hq : 0 ≤ q ∧ q ≤ 100) : ∀ n, 0 ≤ dryO q n ∧ dryO q n ≤ 1000000000 ∧ 0 ≤ dryO q n * q ∧ dryO q n * q ≤ 100000000000
  | 0 => by show (0 : Int) ≤ 1000000000 ∧ (1000000000 : Int) ≤ 1000000000 ∧ 0 ≤ (1000000000 : Int) * q ∧ (1000000000 : Int) * q ≤ 100000000000; omega
  | n + 1 => by
    have ih := dryO_in hq n
    have h1 : 0 ≤ dryO q (n + 1) ∧ dryO q (n + 1) ≤ 1000000000 := by show 0 ≤ dryO q n * q / 100 ∧ dryO q n * q / 100 ≤ 1000000000; omega
    have h2 := Int.mul_le_mul h1.2 hq.2 hq.1 (show (0 : Int) ≤ 1000000000 by decide)
    exact ⟨h1.1, h1.2, Int.mul_nonneg h1.1 hq.1, by omega⟩
set_option maxHeartbeats 4000000 in
set_option maxRecDepth 100000 in
theorem lp_X9_dry {w n : Nat} {q : Int} {M : inm} {Q : Int → Nat → rfm → inm → Prop} (hn : n ≤ 60) (hq : 0 ≤ q ∧ q ≤ 100) (hQ : Q (dryO q n) 303 (PP w) M) : ∀ (d k : Nat), n < k + d → k ≤ n → Go S0 yX9_dry cX9_dry 6 0 0 0 (some .int) 30 [(5, vI ((k : Nat) : Int)), (3, vL (dryO q k)), (0, vR 0), (1, vI ((n : Nat) : Int)), (2, vI q)] [] 303 (PP w) M (fun v n P M => ∃ z, v = some (vI z) ∧ Q z n P M) := by
  intro d
  induction d with
  | zero => intro k h1 h2; exfalso; omega
  | succ d ih =>
    intro k h1 h2
    have hd := dryO_in hq k
    refine go_iload 0 dX9_dry_30 rfl ?_
    refine go_iload_n 3 dX9_dry_32 rfl rfl ?_
    refine go_icmp_ge (tgt := 51) dX9_dry_33 rfl (fun c1 => ?_) (fun c1 => ?_)
    · refine go_lload_n 1 dX9_dry_51 rfl rfl ?_
      refine go_l2i dX9_dry_52 ⟨by omega, by omega⟩ ?_
      refine go_iret dX9_dry_53 rfl rfl ⟨_, rfl, ?_⟩
      rw [show k = n by omega]
      exact hQ
    · refine go_lload_n 1 dX9_dry_36 rfl rfl ?_
      refine go_iload_n 4 dX9_dry_37 rfl rfl ?_
      refine go_i2l dX9_dry_38 ?_
      refine go_lmul dX9_dry_39 ⟨by omega, by omega⟩ ?_
      refine go_ldc2 dX9_dry_40 jk9_278 (by decide) ?_
      refine go_ldiv dX9_dry_43 (by omega) (by omega) ?_
      refine go_lstore_n (lv' := [(3, vL (((dryO q k) * q) / 100)), (5, vI ((k : Nat) : Int)), (0, vR 0), (1, vI ((n : Nat) : Int)), (2, vI q)]) dX9_dry_44 rfl (by decide) rfl ?_
      refine gx_iinc (v := ((k + 1 : Nat) : Int)) (lv' := [(5, vI ((k + 1 : Nat) : Int)), (3, vL (((dryO q k) * q) / 100)), (0, vR 0), (1, vI ((n : Nat) : Int)), (2, vI q)]) 1 dX9_dry_45 rfl (by omega) ⟨by omega, by omega⟩ (by decide) rfl ?_
      refine go_goto (tgt := 30) dX9_dry_48 rfl ?_
      have e2 : (((dryO q k) * q) / 100) = (dryO q (k + 1)) := by rfl
      rw [e2]
      exact ih (k + 1) (by omega) (by omega)

set_option maxHeartbeats 4000000 in
set_option maxRecDepth 100000 in
theorem ok_X9_dry_in {w n : Nat} {q : Int} {M : inm} {Q : Int → Nat → rfm → inm → Prop} (hn : n ≤ 60) (hq : 0 ≤ q ∧ q ≤ 100) (hQ : Q (dryO q n) 303 (PP w) M) : OkI yX9_dry cX9_dry 6 0 0 0 (some .int) [vR 0, vI ((n : Nat) : Int), vI q] 303 (PP w) M Q := by
  refine OkI.of (by decide +kernel) (by decide +kernel) (Nat.le_of_ble_eq_true rfl) ?_
  refine go_eq (lv' := [(0, vR 0), (1, vI ((n : Nat) : Int)), (2, vI q)]) rfl rfl rfl rfl rfl ?_
  refine go_iload_n 1 dX9_dry_0 rfl rfl ?_
  refine go_if_lt (tgt := 20) dX9_dry_1 rfl (fun c1 => ?_) (fun c1 => ?_)
  · exact absurd c1 (by omega)
  · refine go_iload_n 1 dX9_dry_4 rfl rfl ?_
    refine go_bipush dX9_dry_5 (by decide) (by decide) ?_
    refine go_icmp_gt (tgt := 20) dX9_dry_7 rfl (fun c2 => ?_) (fun c2 => ?_)
    · exact absurd c2 (by omega)
    · refine go_iload_n 2 dX9_dry_10 rfl rfl ?_
      refine go_if_lt (tgt := 20) dX9_dry_11 rfl (fun c3 => ?_) (fun c3 => ?_)
      · exact absurd c3 (by omega)
      · refine go_iload_n 2 dX9_dry_14 rfl rfl ?_
        refine go_bipush dX9_dry_15 (by decide) (by decide) ?_
        refine go_icmp_le (tgt := 23) dX9_dry_17 rfl (fun c4 => ?_) (fun c4 => ?_)
        · refine go_ldc2 dX9_dry_23 jk9_276 (by decide) ?_
          refine go_lstore_n (lv' := [(3, vL 1000000000), (0, vR 0), (1, vI ((n : Nat) : Int)), (2, vI q)]) dX9_dry_26 rfl (by decide) rfl ?_
          refine go_iconst dX9_dry_27 (by decide) ?_
          refine go_istore (lv' := [(5, vI 0), (3, vL 1000000000), (0, vR 0), (1, vI ((n : Nat) : Int)), (2, vI q)]) dX9_dry_28 (by decide) rfl ?_
          refine go_eq (lv' := [(5, vI 0), (3, vL (dryO q 0)), (0, vR 0), (1, vI ((n : Nat) : Int)), (2, vI q)]) (rfl) rfl rfl rfl rfl ?_
          exact lp_X9_dry hn hq hQ (n + 1) 0 (by omega) (by omega)
        · exact absurd c4 (by omega)

set_option maxHeartbeats 4000000 in
set_option maxRecDepth 100000 in
theorem ok_X9_dry_out {w : Nat} {k q : Int} {M : inm} {Q : Int → Nat → rfm → inm → Prop} (hk : ¬ (0 ≤ k ∧ k ≤ 60 ∧ 0 ≤ q ∧ q ≤ 100)) (hQ : Q (-1000000002) 303 (PP w) M) : OkI yX9_dry cX9_dry 6 0 0 0 (some .int) [vR 0, vI k, vI q] 303 (PP w) M Q := by
  refine OkI.of (by decide +kernel) (by decide +kernel) (Nat.le_of_ble_eq_true rfl) ?_
  refine go_eq (lv' := [(0, vR 0), (1, vI k), (2, vI q)]) rfl rfl rfl rfl rfl ?_
  refine go_iload_n 1 dX9_dry_0 rfl rfl ?_
  refine go_if_lt (tgt := 20) dX9_dry_1 rfl (fun c1 => ?_) (fun c1 => ?_)
  · refine go_ldc dX9_dry_20 ik9_75 (by decide) ?_
    refine go_iret dX9_dry_22 rfl rfl ⟨_, rfl, ?_⟩
    exact hQ
  · refine go_iload_n 1 dX9_dry_4 rfl rfl ?_
    refine go_bipush dX9_dry_5 (by decide) (by decide) ?_
    refine go_icmp_gt (tgt := 20) dX9_dry_7 rfl (fun c2 => ?_) (fun c2 => ?_)
    · refine go_ldc dX9_dry_20 ik9_75 (by decide) ?_
      refine go_iret dX9_dry_22 rfl rfl ⟨_, rfl, ?_⟩
      exact hQ
    · refine go_iload_n 2 dX9_dry_10 rfl rfl ?_
      refine go_if_lt (tgt := 20) dX9_dry_11 rfl (fun c3 => ?_) (fun c3 => ?_)
      · refine go_ldc dX9_dry_20 ik9_75 (by decide) ?_
        refine go_iret dX9_dry_22 rfl rfl ⟨_, rfl, ?_⟩
        exact hQ
      · refine go_iload_n 2 dX9_dry_14 rfl rfl ?_
        refine go_bipush dX9_dry_15 (by decide) (by decide) ?_
        refine go_icmp_le (tgt := 23) dX9_dry_17 rfl (fun c4 => ?_) (fun c4 => ?_)
        · exfalso; omega
        · refine go_ldc dX9_dry_20 ik9_75 (by decide) ?_
          refine go_iret dX9_dry_22 rfl rfl ⟨_, rfl, ?_⟩
          exact hQ

set_option maxHeartbeats 4000000 in
set_option maxRecDepth 100000 in
theorem ok_X9_guess {w c : Nat} {k a b : Int} {M : inm} {Q : Int → Nat → rfm → inm → Prop} (hb01 : b = 0 ∨ b = 1) (hc : M 266 3 = (c : Int)) (h6 : c ≤ 6) (hb : ¬ (0 ≤ k ∧ k < 8 ∧ 0 ≤ a ∧ a < 5) → Q (-1000000002) 303 (PP w) M) (h1 : (0 ≤ k ∧ k < 8 ∧ 0 ≤ a ∧ a < 5) → c < 6 → Q ((c + 1 : Nat) : Int) 303 (PP w) (mGuess M c k a b)) (h0 : (0 ≤ k ∧ k < 8 ∧ 0 ≤ a ∧ a < 5) → c = 6 → Q (-1000000004) 303 (PP w) M) : OkI yX9_guess cX9_guess 4 1 0 0 (some .int) [vR 0, vI k, vI a, vI b] 303 (PP w) M Q := by
  refine OkI.of (by decide +kernel) (by decide +kernel) (Nat.le_of_ble_eq_true rfl) ?_
  refine go_eq (lv' := [(0, vR 0), (1, vI k), (2, vI a), (3, vI b)]) rfl rfl rfl rfl rfl ?_
  refine go_iload_n 1 dX9_guess_0 rfl rfl ?_
  refine go_if_lt (tgt := 19) dX9_guess_1 rfl (fun c1 => ?_) (fun c1 => ?_)
  · refine go_ldc dX9_guess_19 ik9_75 (by decide) ?_
    refine go_iret dX9_guess_21 rfl rfl ⟨_, rfl, ?_⟩
    first | exact hb (by omega) | exact h1 (by omega) (by omega) | exact h0 (by omega) (by omega)
  · refine go_iload_n 1 dX9_guess_4 rfl rfl ?_
    refine go_bipush dX9_guess_5 (by decide) (by decide) ?_
    refine go_icmp_ge (tgt := 19) dX9_guess_7 rfl (fun c2 => ?_) (fun c2 => ?_)
    · refine go_ldc dX9_guess_19 ik9_75 (by decide) ?_
      refine go_iret dX9_guess_21 rfl rfl ⟨_, rfl, ?_⟩
      first | exact hb (by omega) | exact h1 (by omega) (by omega) | exact h0 (by omega) (by omega)
    · refine go_iload_n 2 dX9_guess_10 rfl rfl ?_
      refine go_if_lt (tgt := 19) dX9_guess_11 rfl (fun c3 => ?_) (fun c3 => ?_)
      · refine go_ldc dX9_guess_19 ik9_75 (by decide) ?_
        refine go_iret dX9_guess_21 rfl rfl ⟨_, rfl, ?_⟩
        first | exact hb (by omega) | exact h1 (by omega) (by omega) | exact h0 (by omega) (by omega)
      · refine go_iload_n 2 dX9_guess_14 rfl rfl ?_
        refine go_iconst dX9_guess_15 (by decide) ?_
        refine go_icmp_lt (tgt := 22) dX9_guess_16 rfl (fun c4 => ?_) (fun c4 => ?_)
        · refine go_aload_n 0 dX9_guess_22 rfl rfl ?_
          refine go_getR (r := 266) dX9_guess_23 lk9_50.get kd_0 (by omega) rfl (pp_0_6 w) ?_
          refine go_iload_n 1 dX9_guess_26 rfl rfl ?_
          refine go_iload_n 2 dX9_guess_27 rfl rfl ?_
          refine go_iload_n 3 dX9_guess_28 rfl rfl ?_
          refine go_callVI (av := [vI k, vI a, vI b]) (st := []) (a := 266) (mc2 := 0) (ms2 := 0) dX9_guess_29 cw9_280 (by decide) rfl rfl (Nat.le_of_ble_eq_true rfl) rfl rfl kd_266 ⟨_, _, rfl⟩ (by decide) (by omega) (ok_X4_add hb01 hc h6 (fun g1 => ?_) (fun g0 => ?_))
          · skip
            refine go_iret dX9_guess_32 rfl rfl ⟨_, rfl, ?_⟩
            first | exact hb (by omega) | exact h1 (by omega) (by omega) | exact h0 (by omega) (by omega)
          · skip
            refine go_iret dX9_guess_32 rfl rfl ⟨_, rfl, ?_⟩
            first | exact hb (by omega) | exact h1 (by omega) (by omega) | exact h0 (by omega) (by omega)
        · refine go_ldc dX9_guess_19 ik9_75 (by decide) ?_
          refine go_iret dX9_guess_21 rfl rfl ⟨_, rfl, ?_⟩
          first | exact hb (by omega) | exact h1 (by omega) (by omega) | exact h0 (by omega) (by omega)

set_option maxHeartbeats 4000000 in
set_option maxRecDepth 100000 in
theorem ok_X9_couldBe {w T c : Nat} {lt gk : Nat → Nat} {M : inm} {Q : Int → Nat → rfm → inm → Prop} (hw : Cs w) (hT : Tys M w T lt) (hc : M 266 3 = (c : Int)) (h6 : c ≤ 6) (hg : ∀ i, i < c → M 267 i = (gk i : Int)) (hQ : Q ((orTo (setG (fun t => allTo (fun i => decide ((if kindV lt (fun t k => M (w + 7 + t) k) t (gk i) = M 268 i then 1 else 0) = M 269 i)) c)) T : Nat) : Int) 303 (PP w) M) : OkI yX9_couldBe cX9_couldBe 1 3 0 0 (some .int) [vR 0] 303 (PP w) M Q := by
  refine OkI.of (by decide +kernel) (by decide +kernel) (Nat.le_of_ble_eq_true rfl) ?_
  refine go_eq (lv' := [(0, vR 0)]) rfl rfl rfl rfl rfl ?_
  refine go_aload_n 0 dX9_couldBe_0 rfl rfl ?_
  refine go_getR (r := 266) dX9_couldBe_1 lk9_50.get kd_0 (by omega) rfl (pp_0_6 w) ?_
  refine go_aload_n 0 dX9_couldBe_4 rfl rfl ?_
  refine go_getR (r := w) dX9_couldBe_5 lk9_19.get kd_0 (by omega) rfl (pp_0_1 w) ?_
  refine go_callVI (av := [vR w]) (st := []) (a := 266) (mc2 := 0) (ms2 := 0) dX9_couldBe_8 cw9_283 (by decide) rfl rfl (Nat.le_of_ble_eq_true rfl) rfl rfl kd_266 ⟨_, _, rfl⟩ (by decide) (by omega) (ok_X4_fitting hw hT hc h6 hg ?_)
  refine go_iret dX9_couldBe_11 rfl rfl ⟨_, rfl, ?_⟩
  exact hQ

theorem setG_lt {p : Nat → Bool} {T : Nat} (hT : T ≤ 6) : orTo (setG p) T < 64 := by
  refine orTo_lt (b := 6) T (fun j hj => ?_)
  unfold setG
  split
  · exact Nat.pow_lt_pow_right (by decide) (by omega)
  · exact Nat.two_pow_pos 6
set_option maxHeartbeats 4000000 in
set_option maxRecDepth 100000 in
theorem ok_X9_ask {w T c : Nat} {lt gk : Nat → Nat} {M : inm} {Q : Int → Nat → rfm → inm → Prop} (hw : Cs w) (hT : Tys M w T lt) (hc : M 266 3 = (c : Int)) (h6 : c ≤ 6) (hg : ∀ i, i < c → M 267 i = (gk i : Int)) (hQ : ∀ M' : inm, Sc M M' → Q (fo (qG (fun k => fo (galG (orTo (setG (fun t => allTo (fun i => decide ((if kindV lt (fun t k => M (w + 7 + t) k) t (gk i) = M 268 i then 1 else 0) = M 269 i)) c)) T) (fun t => kindV lt (fun t k => M (w + 7 + t) k) t k)) T 0)) 8 (-1, ((bitsJ (orTo (setG (fun t => allTo (fun i => decide ((if kindV lt (fun t k => M (w + 7 + t) k) t (gk i) = M 268 i then 1 else 0) = M 269 i)) c)) T) : Nat) : Int))).1 303 (PP w) M') : OkI yX9_ask cX9_ask 1 3 0 0 (some .int) [vR 0] 303 (PP w) M Q := by
  refine OkI.of (by decide +kernel) (by decide +kernel) (Nat.le_of_ble_eq_true rfl) ?_
  refine go_eq (lv' := [(0, vR 0)]) rfl rfl rfl rfl rfl ?_
  refine go_aload_n 0 dX9_ask_0 rfl rfl ?_
  refine go_getR (r := 273) dX9_ask_1 lk9_64.get kd_0 (by omega) rfl (pp_0_8 w) ?_
  refine go_aload_n 0 dX9_ask_4 rfl rfl ?_
  refine go_getR (r := w) dX9_ask_5 lk9_19.get kd_0 (by omega) rfl (pp_0_1 w) ?_
  refine go_aload_n 0 dX9_ask_8 rfl rfl ?_
  refine go_getR (r := 266) dX9_ask_9 lk9_50.get kd_0 (by omega) rfl (pp_0_6 w) ?_
  refine go_aload_n 0 dX9_ask_12 rfl rfl ?_
  refine go_getR (r := w) dX9_ask_13 lk9_19.get kd_0 (by omega) rfl (pp_0_1 w) ?_
  refine go_callVI (av := [vR w]) (st := [vR w, vR 273]) (a := 266) (mc2 := 0) (ms2 := 0) dX9_ask_16 cw9_283 (by decide) rfl rfl (Nat.le_of_ble_eq_true rfl) rfl rfl kd_266 ⟨_, _, rfl⟩ (by decide) (by omega) (ok_X4_fitting hw hT hc h6 hg ?_)
  refine go_callVI (av := [vR w, vI ((orTo (setG (fun t => allTo (fun i => decide ((if kindV lt (fun t k => M (w + 7 + t) k) t (gk i) = M 268 i then 1 else 0) = M 269 i)) c)) T : Nat) : Int)]) (st := []) (a := 273) (mc2 := 0) (ms2 := 0) dX9_ask_19 cw9_286 (by decide) rfl rfl (Nat.le_of_ble_eq_true rfl) rfl rfl kd_273 ⟨_, _, rfl⟩ (by decide) (by omega) (ok_X8_bestQuestion (s := orTo (setG (fun t => allTo (fun i => decide ((if kindV lt (fun t k => M (w + 7 + t) k) t (gk i) = M 268 i then 1 else 0) = M 269 i)) c)) T) hw hT (setG_lt hT.2.1) (fun M' hs => ?_))
  refine go_iret dX9_ask_22 rfl rfl ⟨_, rfl, ?_⟩
  exact hQ M' hs

set_option maxHeartbeats 4000000 in
set_option maxRecDepth 100000 in
theorem ok_X9_write_in {w E c j : Nat} {k a : Int} {M : inm} {Q : Int → Nat → rfm → inm → Prop} (hw : Cs w) (hE : M w 3 = (E : Int) ∧ E ≤ 5) (hj : j < E) (hc : M 270 2 = (c : Int)) (h20 : c ≤ 20) (hb : ¬ (0 ≤ a ∧ a ≤ 9999) → Q (-1000000002) 303 (PP w) M) (h1 : (0 ≤ a ∧ a ≤ 9999) → c < 20 → Q ((c + 1 : Nat) : Int) 303 (PP w) (mBook M c (j : Int) a)) (h0 : (0 ≤ a ∧ a ≤ 9999) → c = 20 → Q (-1000000004) 303 (PP w) M) : OkI yX9_write cX9_write 3 1 0 0 (some .int) [vR 0, vI ((j : Nat) : Int), vI a] 303 (PP w) M Q := by
  refine OkI.of (by decide +kernel) (by decide +kernel) (Nat.le_of_ble_eq_true rfl) ?_
  refine go_eq (lv' := [(0, vR 0), (1, vI ((j : Nat) : Int)), (2, vI a)]) rfl rfl rfl rfl rfl ?_
  refine go_aload_n 0 dX9_write_0 rfl rfl ?_
  refine go_getR (r := w) dX9_write_1 lk9_19.get kd_0 (by omega) rfl (pp_0_1 w) ?_
  refine go_iload_n 1 dX9_write_4 rfl rfl ?_
  refine go_callVI (av := [vI ((j : Nat) : Int)]) (st := []) (a := w) (mc2 := 0) (ms2 := 0) dX9_write_5 cw9_185 (by decide) rfl rfl (Nat.le_of_ble_eq_true rfl) rfl rfl hw.k0 ⟨_, _, rfl⟩ (by decide) hw.l0 (ok_X1_hasExecutor hw (fun _ _ => ?_) (fun h => absurd ⟨by omega, by rw [hE.1]; omega⟩ h))
  refine go_if_ne (tgt := 14) dX9_write_8 rfl (fun c1 => ?_) (fun c1 => ?_)
  · refine go_iload_n 2 dX9_write_14 rfl rfl ?_
    refine go_if_lt (tgt := 25) dX9_write_15 rfl (fun c2 => ?_) (fun c2 => ?_)
    · refine go_ldc dX9_write_25 ik9_75 (by decide) ?_
      refine go_iret dX9_write_27 rfl rfl ⟨_, rfl, ?_⟩
      first | exact hb (by omega) | exact h1 (by omega) (by omega) | exact h0 (by omega) (by omega)
    · refine go_iload_n 2 dX9_write_18 rfl rfl ?_
      refine go_sipush dX9_write_19 (by decide) (by decide) ?_
      refine go_icmp_le (tgt := 28) dX9_write_22 rfl (fun c3 => ?_) (fun c3 => ?_)
      · refine go_aload_n 0 dX9_write_28 rfl rfl ?_
        refine go_getR (r := 270) dX9_write_29 lk9_57.get kd_0 (by omega) rfl (pp_0_7 w) ?_
        refine go_iload_n 1 dX9_write_32 rfl rfl ?_
        refine go_iload_n 2 dX9_write_33 rfl rfl ?_
        refine go_callVI (av := [vI ((j : Nat) : Int), vI a]) (st := []) (a := 270) (mc2 := 0) (ms2 := 0) dX9_write_34 cw9_290 (by decide) rfl rfl (Nat.le_of_ble_eq_true rfl) rfl rfl kd_270 ⟨_, _, rfl⟩ (by decide) (by omega) (ok_X0_add hc h20 (fun g1 => ?_) (fun g0 => ?_))
        · skip
          refine go_iret dX9_write_37 rfl rfl ⟨_, rfl, ?_⟩
          first | exact hb (by omega) | exact h1 (by omega) (by omega) | exact h0 (by omega) (by omega)
        · skip
          refine go_iret dX9_write_37 rfl rfl ⟨_, rfl, ?_⟩
          first | exact hb (by omega) | exact h1 (by omega) (by omega) | exact h0 (by omega) (by omega)
      · refine go_ldc dX9_write_25 ik9_75 (by decide) ?_
        refine go_iret dX9_write_27 rfl rfl ⟨_, rfl, ?_⟩
        first | exact hb (by omega) | exact h1 (by omega) (by omega) | exact h0 (by omega) (by omega)
  · exact absurd c1 (by omega)

set_option maxHeartbeats 4000000 in
set_option maxRecDepth 100000 in
theorem ok_X9_write_out {w E c j : Nat} {k a : Int} {M : inm} {Q : Int → Nat → rfm → inm → Prop} (hw : Cs w) (hE : M w 3 = (E : Int) ∧ E ≤ 5) (hk : ¬ (0 ≤ k ∧ k < (E : Int))) (hQ : Q (-1000000001) 303 (PP w) M) : OkI yX9_write cX9_write 3 1 0 0 (some .int) [vR 0, vI k, vI a] 303 (PP w) M Q := by
  refine OkI.of (by decide +kernel) (by decide +kernel) (Nat.le_of_ble_eq_true rfl) ?_
  refine go_eq (lv' := [(0, vR 0), (1, vI k), (2, vI a)]) rfl rfl rfl rfl rfl ?_
  refine go_aload_n 0 dX9_write_0 rfl rfl ?_
  refine go_getR (r := w) dX9_write_1 lk9_19.get kd_0 (by omega) rfl (pp_0_1 w) ?_
  refine go_iload_n 1 dX9_write_4 rfl rfl ?_
  refine go_callVI (av := [vI k]) (st := []) (a := w) (mc2 := 0) (ms2 := 0) dX9_write_5 cw9_185 (by decide) rfl rfl (Nat.le_of_ble_eq_true rfl) rfl rfl hw.k0 ⟨_, _, rfl⟩ (by decide) hw.l0 (ok_X1_hasExecutor hw (fun q1 q2 => absurd ⟨q1, by rw [hE.1] at q2; exact q2⟩ hk) (fun _ => ?_))
  refine go_if_ne (tgt := 14) dX9_write_8 rfl (fun c1 => ?_) (fun c1 => ?_)
  · exact absurd rfl c1
  · refine go_ldc dX9_write_11 ik9_172 (by decide) ?_
    refine go_iret dX9_write_13 rfl rfl ⟨_, rfl, ?_⟩
    exact hQ

set_option maxHeartbeats 4000000 in
set_option maxRecDepth 100000 in
theorem ok_X9_judge {w c : Nat} {M : inm} {Q : Int → Nat → rfm → inm → Prop} (hc : M 270 2 = (c : Int)) (h20 : c ≤ 20) (hb : ∀ i, i < c → 0 ≤ M 271 i ∧ M 271 i ≤ 4) (hQ : Q (fst1 (fun i => decide (¬ M 33 (M 271 i).toNat = M 272 i)) c 0) 303 (PP w) M) : OkI yX9_judge cX9_judge 1 1 0 0 (some .int) [vR 0] 303 (PP w) M Q := by
  refine OkI.of (by decide +kernel) (by decide +kernel) (Nat.le_of_ble_eq_true rfl) ?_
  refine go_eq (lv' := [(0, vR 0)]) rfl rfl rfl rfl rfl ?_
  refine go_aload_n 0 dX9_judge_0 rfl rfl ?_
  refine go_getR (r := 270) dX9_judge_1 lk9_57.get kd_0 (by omega) rfl (pp_0_7 w) ?_
  refine go_aload_n 0 dX9_judge_4 rfl rfl ?_
  refine go_getR (r := 30) dX9_judge_5 lk9_29.get kd_0 (by omega) rfl (pp_0_3 w) ?_
  refine go_callVI (av := [vR 30]) (st := []) (a := 270) (mc2 := 0) (ms2 := 0) dX9_judge_8 cw9_292 (by decide) rfl rfl (Nat.le_of_ble_eq_true rfl) rfl rfl kd_270 ⟨_, _, rfl⟩ (by decide) (by omega) (ok_X0_firstWrong On_30 hc h20 hb ?_)
  refine go_iret dX9_judge_11 rfl rfl ⟨_, rfl, ?_⟩
  exact hQ

set_option maxHeartbeats 4000000 in
set_option maxRecDepth 100000 in
theorem ok_X9_tear {w c d : Nat} {M : inm} {Q : Int → Nat → rfm → inm → Prop} (hc : M 266 3 = (c : Int)) (h6 : c ≤ 6) (hd : M 270 2 = (d : Int)) (h20 : d ≤ 20) (hQ : Q ((c + d : Nat) : Int) 303 (PP w) (up2 (up2 M 266 3 0) 270 2 0)) : OkI yX9_tear cX9_tear 2 0 0 0 (some .int) [vR 0] 303 (PP w) M Q := by
  refine OkI.of (by decide +kernel) (by decide +kernel) (Nat.le_of_ble_eq_true rfl) ?_
  refine go_eq (lv' := [(0, vR 0)]) rfl rfl rfl rfl rfl ?_
  refine go_aload_n 0 dX9_tear_0 rfl rfl ?_
  refine go_getR (r := 266) dX9_tear_1 lk9_50.get kd_0 (by omega) rfl (pp_0_6 w) ?_
  refine gx_getI (v := ((c : Nat) : Int)) dX9_tear_4 lk9_91.get kd_266 (by omega) rfl hc ?_
  refine go_aload_n 0 dX9_tear_7 rfl rfl ?_
  refine go_getR (r := 270) dX9_tear_8 lk9_57.get kd_0 (by omega) rfl (pp_0_7 w) ?_
  refine gx_getI (v := ((d : Nat) : Int)) dX9_tear_11 lk9_94.get kd_270 (by omega) rfl hd ?_
  refine gx_iadd (v := ((c + d : Nat) : Int)) dX9_tear_14 (by omega) ⟨by omega, by omega⟩ ?_
  refine go_istore_n (lv' := [(1, vI ((c + d : Nat) : Int)), (0, vR 0)]) dX9_tear_15 rfl (by decide) rfl ?_
  refine go_aload_n 1 dX9_tear_16 rfl rfl ?_
  refine go_getR (r := 266) dX9_tear_17 lk9_50.get kd_0 (by omega) rfl (pp_0_6 w) ?_
  refine go_iconst dX9_tear_20 (by decide) ?_
  refine go_putI (fin := false) dX9_tear_21 (Or.inr ⟨lk9_91, rfl⟩) kd_266 (by omega) rfl (Or.inl rfl) ?_
  refine go_aload_n 1 dX9_tear_24 rfl rfl ?_
  refine go_getR (r := 270) dX9_tear_25 lk9_57.get kd_0 (by omega) rfl (pp_0_7 w) ?_
  refine go_iconst dX9_tear_28 (by decide) ?_
  refine go_putI (fin := false) dX9_tear_29 (Or.inr ⟨lk9_94, rfl⟩) kd_270 (by omega) rfl (Or.inl rfl) ?_
  refine go_iload_n 0 dX9_tear_32 rfl rfl ?_
  refine go_iret dX9_tear_33 rfl rfl ⟨_, rfl, ?_⟩
  exact hQ

set_option maxHeartbeats 4000000 in
set_option maxRecDepth 100000 in
theorem ok_X9_seed {w : Nat} {a : Int} {M : inm} {Q : Int → Nat → rfm → inm → Prop} (hb : a < 0 → Q (-1000000002) 303 (PP w) M) (hQ : 0 ≤ a → Q (M 278 0) 303 (PP w) (up2 M 278 0 a)) : OkI yX9_seed cX9_seed 3 0 0 0 (some .int) [vR 0, vI a] 303 (PP w) M Q := by
  refine OkI.of (by decide +kernel) (by decide +kernel) (Nat.le_of_ble_eq_true rfl) ?_
  refine go_eq (lv' := [(0, vR 0), (1, vI a)]) rfl rfl rfl rfl rfl ?_
  refine go_iload_n 1 dX9_seed_0 rfl rfl ?_
  refine go_if_ge (tgt := 7) dX9_seed_1 rfl (fun c1 => ?_) (fun c1 => ?_)
  · refine go_aload_n 0 dX9_seed_7 rfl rfl ?_
    refine go_getR (r := 278) dX9_seed_8 lk9_71.get kd_0 (by omega) rfl (pp_0_9 w) ?_
    refine gx_getI (v := (M 278 0)) dX9_seed_11 lk9_295.get kd_278 (by omega) rfl rfl ?_
    refine go_istore_n (lv' := [(2, vI (M 278 0)), (0, vR 0), (1, vI a)]) dX9_seed_14 rfl (by decide) rfl ?_
    refine go_aload_n 1 dX9_seed_15 rfl rfl ?_
    refine go_getR (r := 278) dX9_seed_16 lk9_71.get kd_0 (by omega) rfl (pp_0_9 w) ?_
    refine go_iload_n 2 dX9_seed_19 rfl rfl ?_
    refine go_putI (fin := false) dX9_seed_20 (Or.inr ⟨lk9_295, rfl⟩) kd_278 (by omega) rfl (Or.inl rfl) ?_
    refine go_iload_n 0 dX9_seed_23 rfl rfl ?_
    refine go_iret dX9_seed_24 rfl rfl ⟨_, rfl, ?_⟩
    first | exact hb (by omega) | exact hQ (by omega)
  · refine go_ldc dX9_seed_4 ik9_75 (by decide) ?_
    refine go_iret dX9_seed_6 rfl rfl ⟨_, rfl, ?_⟩
    first | exact hb (by omega) | exact hQ (by omega)

theorem Bd.of {M M' : inm} {a U : Nat} (h : ∀ x j, a ≤ x → x ≤ a + 6 → M' x j = M x j) (hb : Bd M a U) : Bd M' a U := by
  unfold Bd at hb ⊢
  simp only [h a _ (Nat.le_refl a) (by omega), h (a + 3) _ (by omega) (by omega), h (a + 4) _ (by omega) (by omega), h (a + 5) _ (by omega) (by omega)]
  exact hb
theorem Lay.of {M M' : inm} {a L : Nat} (h : ∀ x j, a ≤ x → x ≤ a + 6 → M' x j = M x j) (hb : Lay M a L) : Lay M' a L := by
  unfold Lay at hb ⊢
  simp only [h a _ (Nat.le_refl a) (by omega), h (a + 1) _ (by omega) (by omega), h (a + 2) _ (by omega) (by omega)]
  exact hb
theorem Bd.mono {M : inm} {a U V : Nat} (h : U ≤ V) (hV : V ≤ 1000000) (hb : Bd M a U) : Bd M a V := by
  obtain ⟨h1, h2, h3, h4, h5, h6, h7, h8, h9⟩ := hb
  exact ⟨h1, h2, fun e he => ⟨(h3 e he).1, by have := (h3 e he).2; omega⟩, h4, ⟨h5.1, by have := h5.2; omega⟩, h6, h7, h8, hV⟩
theorem On_251 : On 251 := by unfold On; decide
theorem On_259 : On 259 := by unfold On; decide
set_option maxHeartbeats 4000000 in
set_option maxRecDepth 100000 in
theorem ok_X9_keep_0 {w U : Nat} {M : inm} {Q : Int → Nat → rfm → inm → Prop} (hB : Bd M 30 U) (hQ : Q 1 303 (PP w) (mForget (up2 (mCopy (up2 M 250 0 1) 251 30) 250 2 (M 278 0)))) : OkI yX9_keep cX9_keep 2 2 0 0 (some .int) [vR 0, vI 0] 303 (PP w) M Q := by
  refine OkI.of (by decide +kernel) (by decide +kernel) (Nat.le_of_ble_eq_true rfl) ?_
  refine go_eq (lv' := [(0, vR 0), (1, vI 0)]) rfl rfl rfl rfl rfl ?_
  refine go_iload_n 1 dX9_keep_0 rfl rfl ?_
  refine go_if_lt (tgt := 9) dX9_keep_1 rfl (fun c1 => ?_) (fun c1 => ?_)
  · exact absurd c1 (by omega)
  · refine go_iload_n 1 dX9_keep_4 rfl rfl ?_
    refine go_iconst dX9_keep_5 (by decide) ?_
    refine go_icmp_lt (tgt := 12) dX9_keep_6 rfl (fun c2 => ?_) (fun c2 => ?_)
    · refine go_aload_n 0 dX9_keep_12 rfl rfl ?_
      refine go_getR (r := 249) dX9_keep_13 lk9_42.get kd_0 (by omega) rfl (pp_0_5 w) ?_
      refine go_iload_n 1 dX9_keep_16 rfl rfl ?_
      refine gx_aaload (c0 := 3) (r := 250) 0 dX9_keep_17 kd_249 (by decide) (by decide) (by omega) ln_249 (by omega) (by omega) rfl ?_
      refine go_iconst dX9_keep_18 (by decide) ?_
      refine go_putZ (fin := false) dX9_keep_19 (Or.inr ⟨lk9_98, rfl⟩) kd_250 (by omega) rfl (Or.inl rfl) (by decide) ?_
      refine go_aload_n 0 dX9_keep_22 rfl rfl ?_
      refine go_getR (r := 249) dX9_keep_23 lk9_42.get kd_0 (by omega) rfl (pp_0_5 w) ?_
      refine go_iload_n 1 dX9_keep_26 rfl rfl ?_
      refine gx_aaload (c0 := 3) (r := 250) 0 dX9_keep_27 kd_249 (by decide) (by decide) (by omega) ln_249 (by omega) (by omega) rfl ?_
      refine go_getR (r := 251) dX9_keep_28 lk9_298 kd_250 (by omega) rfl (pp_250_1 w) ?_
      refine go_aload_n 0 dX9_keep_31 rfl rfl ?_
      refine go_getR (r := 30) dX9_keep_32 lk9_29.get kd_0 (by omega) rfl (pp_0_3 w) ?_
      refine go_callVV (av := [vR 30]) (st := []) (a := 251) (mc2 := 0) (ms2 := 0) dX9_keep_35 cw9_299 (by decide) rfl rfl (Nat.le_of_ble_eq_true rfl) rfl rfl kd_251 ⟨_, _, rfl⟩ (by decide) (by omega) (ok_X6_copy (U := U) (M := (up2 M 250 0 1)) On_30 On_251 (by omega) (Bd.of (fun x i h1 h2 => up2_ne (by omega)) hB) ?_)
      refine go_aload_n 0 dX9_keep_38 rfl rfl ?_
      refine go_getR (r := 249) dX9_keep_39 lk9_42.get kd_0 (by omega) rfl (pp_0_5 w) ?_
      refine go_iload_n 1 dX9_keep_42 rfl rfl ?_
      refine gx_aaload (c0 := 3) (r := 250) 0 dX9_keep_43 kd_249 (by decide) (by decide) (by omega) ln_249 (by omega) (by omega) rfl ?_
      refine go_aload_n 0 dX9_keep_44 rfl rfl ?_
      refine go_getR (r := 278) dX9_keep_45 lk9_71.get kd_0 (by omega) rfl (pp_0_9 w) ?_
      refine gx_getI (v := (M 278 0)) dX9_keep_48 lk9_295.get kd_278 (by omega) rfl (((mCopy_out (by omega))).trans ((up2_ne (by omega)))) ?_
      refine go_putI (fin := false) dX9_keep_51 (Or.inr ⟨lk9_302, rfl⟩) kd_250 (by omega) rfl (Or.inl rfl) ?_
      refine go_aload_n 0 dX9_keep_54 rfl rfl ?_
      refine go_getR (r := 37) dX9_keep_55 lk9_36.get kd_0 (by omega) rfl (pp_0_4 w) ?_
      refine go_callVV (av := []) (st := []) (a := 37) (mc2 := 0) (ms2 := 0) dX9_keep_58 cw9_95 (by decide) rfl rfl (Nat.le_of_ble_eq_true rfl) rfl rfl kd_37 ⟨_, _, rfl⟩ (by decide) (by omega) (ok_X2_forget ?_)
      refine go_iconst dX9_keep_61 (by decide) ?_
      refine go_iret dX9_keep_62 rfl rfl ⟨_, rfl, ?_⟩
      exact hQ
    · exact absurd c2 (by omega)

set_option maxHeartbeats 4000000 in
set_option maxRecDepth 100000 in
theorem ok_X9_goBack_0 {w U : Nat} {M : inm} {Q : Int → Nat → rfm → inm → Prop} (hB : Bd M 251 U) (h0 : M 250 0 = 0 → Q (-1000000003) 303 (PP w) M) (h1 : ¬ M 250 0 = 0 → Q 1 303 (PP w) (mForget (up2 (mCopy M 30 251) 278 0 (M 250 2)))) : OkI yX9_goBack cX9_goBack 2 2 0 0 (some .int) [vR 0, vI 0] 303 (PP w) M Q := by
  refine OkI.of (by decide +kernel) (by decide +kernel) (Nat.le_of_ble_eq_true rfl) ?_
  refine go_eq (lv' := [(0, vR 0), (1, vI 0)]) rfl rfl rfl rfl rfl ?_
  refine go_iload_n 1 dX9_goBack_0 rfl rfl ?_
  refine go_if_lt (tgt := 9) dX9_goBack_1 rfl (fun c1 => ?_) (fun c1 => ?_)
  · exact absurd c1 (by omega)
  · refine go_iload_n 1 dX9_goBack_4 rfl rfl ?_
    refine go_iconst dX9_goBack_5 (by decide) ?_
    refine go_icmp_lt (tgt := 12) dX9_goBack_6 rfl (fun c2 => ?_) (fun c2 => ?_)
    · refine go_aload_n 0 dX9_goBack_12 rfl rfl ?_
      refine go_getR (r := 249) dX9_goBack_13 lk9_42.get kd_0 (by omega) rfl (pp_0_5 w) ?_
      refine go_iload_n 1 dX9_goBack_16 rfl rfl ?_
      refine gx_aaload (c0 := 3) (r := 250) 0 dX9_goBack_17 kd_249 (by decide) (by decide) (by omega) ln_249 (by omega) (by omega) rfl ?_
      refine gx_getI (v := (M 250 0)) dX9_goBack_18 lk9_98.get kd_250 (by omega) rfl rfl ?_
      refine go_if_ne (tgt := 27) dX9_goBack_21 rfl (fun c3 => ?_) (fun c3 => ?_)
      · refine go_aload_n 0 dX9_goBack_27 rfl rfl ?_
        refine go_getR (r := 30) dX9_goBack_28 lk9_29.get kd_0 (by omega) rfl (pp_0_3 w) ?_
        refine go_aload_n 0 dX9_goBack_31 rfl rfl ?_
        refine go_getR (r := 249) dX9_goBack_32 lk9_42.get kd_0 (by omega) rfl (pp_0_5 w) ?_
        refine go_iload_n 1 dX9_goBack_35 rfl rfl ?_
        refine gx_aaload (c0 := 3) (r := 250) 0 dX9_goBack_36 kd_249 (by decide) (by decide) (by omega) ln_249 (by omega) (by omega) rfl ?_
        refine go_getR (r := 251) dX9_goBack_37 lk9_298 kd_250 (by omega) rfl (pp_250_1 w) ?_
        refine go_callVV (av := [vR 251]) (st := []) (a := 30) (mc2 := 0) (ms2 := 0) dX9_goBack_40 cw9_299 (by decide) rfl rfl (Nat.le_of_ble_eq_true rfl) rfl rfl kd_30 ⟨_, _, rfl⟩ (by decide) (by omega) (ok_X6_copy (U := U) (M := M) On_251 On_30 (by omega) hB ?_)
        refine go_aload_n 0 dX9_goBack_43 rfl rfl ?_
        refine go_getR (r := 278) dX9_goBack_44 lk9_71.get kd_0 (by omega) rfl (pp_0_9 w) ?_
        refine go_aload_n 0 dX9_goBack_47 rfl rfl ?_
        refine go_getR (r := 249) dX9_goBack_48 lk9_42.get kd_0 (by omega) rfl (pp_0_5 w) ?_
        refine go_iload_n 1 dX9_goBack_51 rfl rfl ?_
        refine gx_aaload (c0 := 3) (r := 250) 0 dX9_goBack_52 kd_249 (by decide) (by decide) (by omega) ln_249 (by omega) (by omega) rfl ?_
        refine gx_getI (v := (M 250 2)) dX9_goBack_53 lk9_302.get kd_250 (by omega) rfl ((mCopy_out (by omega))) ?_
        refine go_putI (fin := false) dX9_goBack_56 (Or.inr ⟨lk9_295, rfl⟩) kd_278 (by omega) rfl (Or.inl rfl) ?_
        refine go_aload_n 0 dX9_goBack_59 rfl rfl ?_
        refine go_getR (r := 37) dX9_goBack_60 lk9_36.get kd_0 (by omega) rfl (pp_0_4 w) ?_
        refine go_callVV (av := []) (st := []) (a := 37) (mc2 := 0) (ms2 := 0) dX9_goBack_63 cw9_95 (by decide) rfl rfl (Nat.le_of_ble_eq_true rfl) rfl rfl kd_37 ⟨_, _, rfl⟩ (by decide) (by omega) (ok_X2_forget ?_)
        refine go_iconst dX9_goBack_66 (by decide) ?_
        refine go_iret dX9_goBack_67 rfl rfl ⟨_, rfl, ?_⟩
        first | exact h0 (by omega) | exact h1 (by omega)
      · refine go_ldc dX9_goBack_24 ik9_211 (by decide) ?_
        refine go_iret dX9_goBack_26 rfl rfl ⟨_, rfl, ?_⟩
        first | exact h0 (by omega) | exact h1 (by omega)
    · exact absurd c2 (by omega)

set_option maxHeartbeats 4000000 in
set_option maxRecDepth 100000 in
theorem ok_X9_keep_1 {w U : Nat} {M : inm} {Q : Int → Nat → rfm → inm → Prop} (hB : Bd M 30 U) (hQ : Q 1 303 (PP w) (mForget (up2 (mCopy (up2 M 258 0 1) 259 30) 258 2 (M 278 0)))) : OkI yX9_keep cX9_keep 2 2 0 0 (some .int) [vR 0, vI 1] 303 (PP w) M Q := by
  refine OkI.of (by decide +kernel) (by decide +kernel) (Nat.le_of_ble_eq_true rfl) ?_
  refine go_eq (lv' := [(0, vR 0), (1, vI 1)]) rfl rfl rfl rfl rfl ?_
  refine go_iload_n 1 dX9_keep_0 rfl rfl ?_
  refine go_if_lt (tgt := 9) dX9_keep_1 rfl (fun c1 => ?_) (fun c1 => ?_)
  · exact absurd c1 (by omega)
  · refine go_iload_n 1 dX9_keep_4 rfl rfl ?_
    refine go_iconst dX9_keep_5 (by decide) ?_
    refine go_icmp_lt (tgt := 12) dX9_keep_6 rfl (fun c2 => ?_) (fun c2 => ?_)
    · refine go_aload_n 0 dX9_keep_12 rfl rfl ?_
      refine go_getR (r := 249) dX9_keep_13 lk9_42.get kd_0 (by omega) rfl (pp_0_5 w) ?_
      refine go_iload_n 1 dX9_keep_16 rfl rfl ?_
      refine gx_aaload (c0 := 3) (r := 258) 1 dX9_keep_17 kd_249 (by decide) (by decide) (by omega) ln_249 (by omega) (by omega) rfl ?_
      refine go_iconst dX9_keep_18 (by decide) ?_
      refine go_putZ (fin := false) dX9_keep_19 (Or.inr ⟨lk9_98, rfl⟩) kd_258 (by omega) rfl (Or.inl rfl) (by decide) ?_
      refine go_aload_n 0 dX9_keep_22 rfl rfl ?_
      refine go_getR (r := 249) dX9_keep_23 lk9_42.get kd_0 (by omega) rfl (pp_0_5 w) ?_
      refine go_iload_n 1 dX9_keep_26 rfl rfl ?_
      refine gx_aaload (c0 := 3) (r := 258) 1 dX9_keep_27 kd_249 (by decide) (by decide) (by omega) ln_249 (by omega) (by omega) rfl ?_
      refine go_getR (r := 259) dX9_keep_28 lk9_298 kd_258 (by omega) rfl (pp_258_1 w) ?_
      refine go_aload_n 0 dX9_keep_31 rfl rfl ?_
      refine go_getR (r := 30) dX9_keep_32 lk9_29.get kd_0 (by omega) rfl (pp_0_3 w) ?_
      refine go_callVV (av := [vR 30]) (st := []) (a := 259) (mc2 := 0) (ms2 := 0) dX9_keep_35 cw9_299 (by decide) rfl rfl (Nat.le_of_ble_eq_true rfl) rfl rfl kd_259 ⟨_, _, rfl⟩ (by decide) (by omega) (ok_X6_copy (U := U) (M := (up2 M 258 0 1)) On_30 On_259 (by omega) (Bd.of (fun x i h1 h2 => up2_ne (by omega)) hB) ?_)
      refine go_aload_n 0 dX9_keep_38 rfl rfl ?_
      refine go_getR (r := 249) dX9_keep_39 lk9_42.get kd_0 (by omega) rfl (pp_0_5 w) ?_
      refine go_iload_n 1 dX9_keep_42 rfl rfl ?_
      refine gx_aaload (c0 := 3) (r := 258) 1 dX9_keep_43 kd_249 (by decide) (by decide) (by omega) ln_249 (by omega) (by omega) rfl ?_
      refine go_aload_n 0 dX9_keep_44 rfl rfl ?_
      refine go_getR (r := 278) dX9_keep_45 lk9_71.get kd_0 (by omega) rfl (pp_0_9 w) ?_
      refine gx_getI (v := (M 278 0)) dX9_keep_48 lk9_295.get kd_278 (by omega) rfl (((mCopy_out (by omega))).trans ((up2_ne (by omega)))) ?_
      refine go_putI (fin := false) dX9_keep_51 (Or.inr ⟨lk9_302, rfl⟩) kd_258 (by omega) rfl (Or.inl rfl) ?_
      refine go_aload_n 0 dX9_keep_54 rfl rfl ?_
      refine go_getR (r := 37) dX9_keep_55 lk9_36.get kd_0 (by omega) rfl (pp_0_4 w) ?_
      refine go_callVV (av := []) (st := []) (a := 37) (mc2 := 0) (ms2 := 0) dX9_keep_58 cw9_95 (by decide) rfl rfl (Nat.le_of_ble_eq_true rfl) rfl rfl kd_37 ⟨_, _, rfl⟩ (by decide) (by omega) (ok_X2_forget ?_)
      refine go_iconst dX9_keep_61 (by decide) ?_
      refine go_iret dX9_keep_62 rfl rfl ⟨_, rfl, ?_⟩
      exact hQ
    · exact absurd c2 (by omega)

set_option maxHeartbeats 4000000 in
set_option maxRecDepth 100000 in
theorem ok_X9_goBack_1 {w U : Nat} {M : inm} {Q : Int → Nat → rfm → inm → Prop} (hB : Bd M 259 U) (h0 : M 258 0 = 0 → Q (-1000000003) 303 (PP w) M) (h1 : ¬ M 258 0 = 0 → Q 1 303 (PP w) (mForget (up2 (mCopy M 30 259) 278 0 (M 258 2)))) : OkI yX9_goBack cX9_goBack 2 2 0 0 (some .int) [vR 0, vI 1] 303 (PP w) M Q := by
  refine OkI.of (by decide +kernel) (by decide +kernel) (Nat.le_of_ble_eq_true rfl) ?_
  refine go_eq (lv' := [(0, vR 0), (1, vI 1)]) rfl rfl rfl rfl rfl ?_
  refine go_iload_n 1 dX9_goBack_0 rfl rfl ?_
  refine go_if_lt (tgt := 9) dX9_goBack_1 rfl (fun c1 => ?_) (fun c1 => ?_)
  · exact absurd c1 (by omega)
  · refine go_iload_n 1 dX9_goBack_4 rfl rfl ?_
    refine go_iconst dX9_goBack_5 (by decide) ?_
    refine go_icmp_lt (tgt := 12) dX9_goBack_6 rfl (fun c2 => ?_) (fun c2 => ?_)
    · refine go_aload_n 0 dX9_goBack_12 rfl rfl ?_
      refine go_getR (r := 249) dX9_goBack_13 lk9_42.get kd_0 (by omega) rfl (pp_0_5 w) ?_
      refine go_iload_n 1 dX9_goBack_16 rfl rfl ?_
      refine gx_aaload (c0 := 3) (r := 258) 1 dX9_goBack_17 kd_249 (by decide) (by decide) (by omega) ln_249 (by omega) (by omega) rfl ?_
      refine gx_getI (v := (M 258 0)) dX9_goBack_18 lk9_98.get kd_258 (by omega) rfl rfl ?_
      refine go_if_ne (tgt := 27) dX9_goBack_21 rfl (fun c3 => ?_) (fun c3 => ?_)
      · refine go_aload_n 0 dX9_goBack_27 rfl rfl ?_
        refine go_getR (r := 30) dX9_goBack_28 lk9_29.get kd_0 (by omega) rfl (pp_0_3 w) ?_
        refine go_aload_n 0 dX9_goBack_31 rfl rfl ?_
        refine go_getR (r := 249) dX9_goBack_32 lk9_42.get kd_0 (by omega) rfl (pp_0_5 w) ?_
        refine go_iload_n 1 dX9_goBack_35 rfl rfl ?_
        refine gx_aaload (c0 := 3) (r := 258) 1 dX9_goBack_36 kd_249 (by decide) (by decide) (by omega) ln_249 (by omega) (by omega) rfl ?_
        refine go_getR (r := 259) dX9_goBack_37 lk9_298 kd_258 (by omega) rfl (pp_258_1 w) ?_
        refine go_callVV (av := [vR 259]) (st := []) (a := 30) (mc2 := 0) (ms2 := 0) dX9_goBack_40 cw9_299 (by decide) rfl rfl (Nat.le_of_ble_eq_true rfl) rfl rfl kd_30 ⟨_, _, rfl⟩ (by decide) (by omega) (ok_X6_copy (U := U) (M := M) On_259 On_30 (by omega) hB ?_)
        refine go_aload_n 0 dX9_goBack_43 rfl rfl ?_
        refine go_getR (r := 278) dX9_goBack_44 lk9_71.get kd_0 (by omega) rfl (pp_0_9 w) ?_
        refine go_aload_n 0 dX9_goBack_47 rfl rfl ?_
        refine go_getR (r := 249) dX9_goBack_48 lk9_42.get kd_0 (by omega) rfl (pp_0_5 w) ?_
        refine go_iload_n 1 dX9_goBack_51 rfl rfl ?_
        refine gx_aaload (c0 := 3) (r := 258) 1 dX9_goBack_52 kd_249 (by decide) (by decide) (by omega) ln_249 (by omega) (by omega) rfl ?_
        refine gx_getI (v := (M 258 2)) dX9_goBack_53 lk9_302.get kd_258 (by omega) rfl ((mCopy_out (by omega))) ?_
        refine go_putI (fin := false) dX9_goBack_56 (Or.inr ⟨lk9_295, rfl⟩) kd_278 (by omega) rfl (Or.inl rfl) ?_
        refine go_aload_n 0 dX9_goBack_59 rfl rfl ?_
        refine go_getR (r := 37) dX9_goBack_60 lk9_36.get kd_0 (by omega) rfl (pp_0_4 w) ?_
        refine go_callVV (av := []) (st := []) (a := 37) (mc2 := 0) (ms2 := 0) dX9_goBack_63 cw9_95 (by decide) rfl rfl (Nat.le_of_ble_eq_true rfl) rfl rfl kd_37 ⟨_, _, rfl⟩ (by decide) (by omega) (ok_X2_forget ?_)
        refine go_iconst dX9_goBack_66 (by decide) ?_
        refine go_iret dX9_goBack_67 rfl rfl ⟨_, rfl, ?_⟩
        first | exact h0 (by omega) | exact h1 (by omega)
      · refine go_ldc dX9_goBack_24 ik9_211 (by decide) ?_
        refine go_iret dX9_goBack_26 rfl rfl ⟨_, rfl, ?_⟩
        first | exact h0 (by omega) | exact h1 (by omega)
    · exact absurd c2 (by omega)

set_option maxHeartbeats 4000000 in
set_option maxRecDepth 100000 in
theorem ok_X9_keep_out {w : Nat} {a : Int} {M : inm} {Q : Int → Nat → rfm → inm → Prop} (hk : ¬ (0 ≤ a ∧ a < 2)) (hQ : Q (-1000000001) 303 (PP w) M) : OkI yX9_keep cX9_keep 2 2 0 0 (some .int) [vR 0, vI a] 303 (PP w) M Q := by
  refine OkI.of (by decide +kernel) (by decide +kernel) (Nat.le_of_ble_eq_true rfl) ?_
  refine go_eq (lv' := [(0, vR 0), (1, vI a)]) rfl rfl rfl rfl rfl ?_
  refine go_iload_n 1 dX9_keep_0 rfl rfl ?_
  refine go_if_lt (tgt := 9) dX9_keep_1 rfl (fun c1 => ?_) (fun c1 => ?_)
  · refine go_ldc dX9_keep_9 ik9_172 (by decide) ?_
    refine go_iret dX9_keep_11 rfl rfl ⟨_, rfl, ?_⟩
    exact hQ
  · refine go_iload_n 1 dX9_keep_4 rfl rfl ?_
    refine go_iconst dX9_keep_5 (by decide) ?_
    refine go_icmp_lt (tgt := 12) dX9_keep_6 rfl (fun c2 => ?_) (fun c2 => ?_)
    · exfalso; omega
    · refine go_ldc dX9_keep_9 ik9_172 (by decide) ?_
      refine go_iret dX9_keep_11 rfl rfl ⟨_, rfl, ?_⟩
      exact hQ

set_option maxHeartbeats 4000000 in
set_option maxRecDepth 100000 in
theorem ok_X9_goBack_out {w : Nat} {a : Int} {M : inm} {Q : Int → Nat → rfm → inm → Prop} (hk : ¬ (0 ≤ a ∧ a < 2)) (hQ : Q (-1000000001) 303 (PP w) M) : OkI yX9_goBack cX9_goBack 2 2 0 0 (some .int) [vR 0, vI a] 303 (PP w) M Q := by
  refine OkI.of (by decide +kernel) (by decide +kernel) (Nat.le_of_ble_eq_true rfl) ?_
  refine go_eq (lv' := [(0, vR 0), (1, vI a)]) rfl rfl rfl rfl rfl ?_
  refine go_iload_n 1 dX9_goBack_0 rfl rfl ?_
  refine go_if_lt (tgt := 9) dX9_goBack_1 rfl (fun c1 => ?_) (fun c1 => ?_)
  · refine go_ldc dX9_goBack_9 ik9_172 (by decide) ?_
    refine go_iret dX9_goBack_11 rfl rfl ⟨_, rfl, ?_⟩
    exact hQ
  · refine go_iload_n 1 dX9_goBack_4 rfl rfl ?_
    refine go_iconst dX9_goBack_5 (by decide) ?_
    refine go_icmp_lt (tgt := 12) dX9_goBack_6 rfl (fun c2 => ?_) (fun c2 => ?_)
    · exfalso; omega
    · refine go_ldc dX9_goBack_9 ik9_172 (by decide) ?_
      refine go_iret dX9_goBack_11 rfl rfl ⟨_, rfl, ?_⟩
      exact hQ

