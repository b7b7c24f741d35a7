/-! ===== OnionProbate: reads and small deeds ===== -/
def sel (l : List Int) (k d : Int) : Int := if k < 0 then d else l.getD k.toNat d
theorem sel_at {l : List Int} {k d x : Int} (i : Nat) (hk : k = (i : Int)) (h : l[i]? = some x) : sel l k d = x := by
  unfold sel
  rw [if_neg (by omega), hk, Int.toNat_natCast, List.getD_eq_getElem?_getD, h]
  rfl
theorem sel_out {l : List Int} {k d : Int} (n : Nat) (hn : l.length = n) (h : k < 0 ∨ (n : Int) ≤ k) : sel l k d = d := by
  unfold sel
  by_cases h0 : k < 0
  · rw [if_pos h0]
  · rw [if_neg h0, List.getD_eq_getElem?_getD, List.getElem?_eq_none (by omega)]
    rfl
def spreadV (g : Nat → Int) (E : Nat) : Int := (fo (fun e (s : Int × Int) => (min s.1 (g e), max s.2 (g e))) E (g 0, g 0)).2 - (fo (fun e (s : Int × Int) => (min s.1 (g e), max s.2 (g e))) E (g 0, g 0)).1
theorem spread_in {g : Nat → Int} {b : Int} : ∀ n, (∀ e, e < max n 1 → 0 ≤ g e ∧ g e ≤ b) → (0 ≤ (fo (fun e (s : Int × Int) => (min s.1 (g e), max s.2 (g e))) n (g 0, g 0)).1 ∧ (fo (fun e (s : Int × Int) => (min s.1 (g e), max s.2 (g e))) n (g 0, g 0)).1 ≤ b) ∧ 0 ≤ (fo (fun e (s : Int × Int) => (min s.1 (g e), max s.2 (g e))) n (g 0, g 0)).2 ∧ (fo (fun e (s : Int × Int) => (min s.1 (g e), max s.2 (g e))) n (g 0, g 0)).2 ≤ b
  | 0, h => ⟨h 0 (by omega), h 0 (by omega)⟩
  | n + 1, h => by
    have ih := spread_in n (fun e he => h e (by omega))
    have h1 := h n (by omega)
    rw [fo]
    exact ⟨by show 0 ≤ min _ (g n) ∧ min _ (g n) ≤ b; omega, by show 0 ≤ max _ (g n) ∧ max _ (g n) ≤ b; omega⟩
def mFeed (M : inm) (n : Nat) (c : Int) : inm := up2 (up2 M 2 n c) 1 2 ((n + 1 : Nat) : Int)
set_option maxHeartbeats 4000000 in
set_option maxRecDepth 100000 in
theorem ok_X7_add {w n : Nat} {c : Int} {M : inm} {Q : Int → Nat → rfm → inm → Prop} (hn : M 1 2 = (n : Int)) (h240 : n ≤ 240) (h1 : n < 240 → Q ((n + 1 : Nat) : Int) 303 (PP w) (mFeed M n c)) (h0 : n = 240 → Q (-1000000004) 303 (PP w) M) : OkI yX7_add cX7_add 2 0 0 0 (some .int) [vR 1, vI c] 303 (PP w) M Q := by
  refine OkI.of (by decide +kernel) (by decide +kernel) (Nat.le_of_ble_eq_true rfl) ?_
  refine go_eq (lv' := [(0, vR 1), (1, vI c)]) rfl rfl rfl rfl rfl ?_
  refine go_aload_n 0 dX7_add_0 rfl rfl ?_
  refine gx_getI (v := ((n : Nat) : Int)) dX7_add_1 lk7_18.get kd_1 (by omega) rfl hn ?_
  refine go_sipush dX7_add_4 (by decide) (by decide) ?_
  refine go_icmp_lt (tgt := 13) dX7_add_7 rfl (fun c1 => ?_) (fun c1 => ?_)
  · refine go_aload_n 0 dX7_add_13 rfl rfl ?_
    refine go_getR (r := 2) dX7_add_14 lk7_9.get kd_1 (by omega) rfl (pp_1_0 w) ?_
    refine go_aload_n 0 dX7_add_17 rfl rfl ?_
    refine gx_getI (v := ((n : Nat) : Int)) dX7_add_18 lk7_18.get kd_1 (by omega) rfl hn ?_
    refine go_iload_n 1 dX7_add_21 rfl rfl ?_
    refine gx_iastore n dX7_add_22 kd_2 (by omega) ln_2 rfl (by omega) ?_
    refine go_aload_n 0 dX7_add_23 rfl rfl ?_
    refine go_dup dX7_add_24 rfl ?_
    refine gx_getI (v := ((n : Nat) : Int)) dX7_add_25 lk7_18.get kd_1 (by omega) rfl ((up2_ne (by omega)).trans hn) ?_
    refine go_iconst dX7_add_28 (by decide) ?_
    refine gx_iadd (v := ((n + 1 : Nat) : Int)) dX7_add_29 (by omega) ⟨by omega, by omega⟩ ?_
    refine go_putI dX7_add_30 (Or.inl lk7_18) kd_1 (by omega) rfl (Or.inl rfl) ?_
    refine go_aload_n 0 dX7_add_33 rfl rfl ?_
    refine gx_getI (v := ((n + 1 : Nat) : Int)) dX7_add_34 lk7_18.get kd_1 (by omega) rfl up2_same ?_
    refine go_iret dX7_add_37 rfl rfl ⟨_, rfl, ?_⟩
    first | exact h1 (by omega) | exact h0 (by omega)
  · refine go_ldc dX7_add_10 ik7_31 (by decide) ?_
    refine go_iret dX7_add_12 rfl rfl ⟨_, rfl, ?_⟩
    first | exact h1 (by omega) | exact h0 (by omega)

set_option maxHeartbeats 4000000 in
set_option maxRecDepth 100000 in
theorem ok_X9_feed {w n : Nat} {c : Int} {M : inm} {Q : Int → Nat → rfm → inm → Prop} (hn : M 1 2 = (n : Int)) (h240 : n ≤ 240) (hb : ¬ (0 ≤ c ∧ c ≤ 255) → Q (-1000000002) 303 (PP w) M) (h1 : 0 ≤ c ∧ c ≤ 255 → n < 240 → Q ((n + 1 : Nat) : Int) 303 (PP w) (mFeed M n c)) (h0 : 0 ≤ c ∧ c ≤ 255 → n = 240 → Q (-1000000004) 303 (PP w) M) : OkI yX9_feed cX9_feed 2 1 0 0 (some .int) [vR 0, vI c] 303 (PP w) M Q := by
  refine OkI.of (by decide +kernel) (by decide +kernel) (Nat.le_of_ble_eq_true rfl) ?_
  refine go_eq (lv' := [(0, vR 0), (1, vI c)]) rfl rfl rfl rfl rfl ?_
  refine go_iload_n 1 dX9_feed_0 rfl rfl ?_
  refine go_if_lt (tgt := 11) dX9_feed_1 rfl (fun c1 => ?_) (fun c1 => ?_)
  · refine go_ldc dX9_feed_11 ik9_75 (by decide) ?_
    refine go_iret dX9_feed_13 rfl rfl ⟨_, rfl, ?_⟩
    first | exact hb (by omega) | exact h1 (by omega) (by omega) | exact h0 (by omega) (by omega)
  · refine go_iload_n 1 dX9_feed_4 rfl rfl ?_
    refine go_sipush dX9_feed_5 (by decide) (by decide) ?_
    refine go_icmp_le (tgt := 14) dX9_feed_8 rfl (fun c2 => ?_) (fun c2 => ?_)
    · refine go_aload_n 0 dX9_feed_14 rfl rfl ?_
      refine go_getR (r := 1) dX9_feed_15 lk9_10.get kd_0 (by omega) rfl (pp_0_0 w) ?_
      refine go_iload_n 1 dX9_feed_18 rfl rfl ?_
      refine go_callVI (av := [vI c]) (st := []) (a := 1) (mc2 := 0) (ms2 := 0) dX9_feed_19 cw9_76 (by decide) rfl rfl (Nat.le_of_ble_eq_true rfl) rfl rfl kd_1 ⟨_, _, rfl⟩ (by decide) (by omega) (ok_X7_add hn h240 (fun g1 => ?_) (fun g0 => ?_))
      · skip
        refine go_iret dX9_feed_22 rfl rfl ⟨_, rfl, ?_⟩
        first | exact hb (by omega) | exact h1 (by omega) (by omega) | exact h0 (by omega) (by omega)
      · skip
        refine go_iret dX9_feed_22 rfl rfl ⟨_, rfl, ?_⟩
        first | exact hb (by omega) | exact h1 (by omega) (by omega) | exact h0 (by omega) (by omega)
    · refine go_ldc dX9_feed_11 ik9_75 (by decide) ?_
      refine go_iret dX9_feed_13 rfl rfl ⟨_, rfl, ?_⟩
      first | exact hb (by omega) | exact h1 (by omega) (by omega) | exact h0 (by omega) (by omega)

set_option maxHeartbeats 4000000 in
set_option maxRecDepth 100000 in
theorem ok_X9_fault {w : Nat} {M : inm} {Q : Int → Nat → rfm → inm → Prop} (hQ : Q (M 1 5) 303 (PP w) M) : OkI yX9_fault cX9_fault 1 0 0 0 (some .int) [vR 0] 303 (PP w) M Q := by
  refine OkI.of (by decide +kernel) (by decide +kernel) (Nat.le_of_ble_eq_true rfl) ?_
  refine go_eq (lv' := [(0, vR 0)]) rfl rfl rfl rfl rfl ?_
  refine go_aload_n 0 dX9_fault_0 rfl rfl ?_
  refine go_getR (r := 1) dX9_fault_1 lk9_10.get kd_0 (by omega) rfl (pp_0_0 w) ?_
  refine gx_getI (v := (M 1 5)) dX9_fault_4 lk9_105.get kd_1 (by omega) rfl rfl ?_
  refine go_iret dX9_fault_7 rfl rfl ⟨_, rfl, ?_⟩
  exact hQ

set_option maxHeartbeats 4000000 in
set_option maxRecDepth 100000 in
theorem lp_X9_spread {w x E : Nat} {M : inm} {Q : Int → Nat → rfm → inm → Prop} (hx : kd x = 11 ∧ x < 303 ∧ ln x = 5) (hE : 1 ≤ E ∧ E ≤ 5) (hg : ∀ e, e < 5 → 0 ≤ M x e ∧ M x e ≤ 20000) (hQ : Q (spreadV (fun e => M x e) E) 303 (PP w) M) : ∀ (d k : Nat), E < k + d → 1 ≤ k → k ≤ E → Go S0 yX9_spread cX9_spread 5 1 0 0 (some .int) 24 [(4, vI ((k : Nat) : Int)), (2, vI ((fo (fun e (s : Int × Int) => (min s.1 (M x e), max s.2 (M x e))) k (M x 0, M x 0)).1)), (3, vI ((fo (fun e (s : Int × Int) => (min s.1 (M x e), max s.2 (M x e))) k (M x 0, M x 0)).2)), (0, vR x), (1, vI ((E : Nat) : Int))] [] 303 (PP w) M (fun v n P M => ∃ z, v = some (vI z) ∧ Q z n P M) := by
  intro d
  induction d with
  | zero => intro k h1 h2 h3; exfalso; omega
  | succ d ih =>
    intro k h1 h2 h3
    have hsp := spread_in (g := (fun e => M x e)) (b := 20000) k (fun e he => hg e (by omega))
    refine go_iload 0 dX9_spread_24 rfl ?_
    refine go_iload_n 4 dX9_spread_26 rfl rfl ?_
    refine go_icmp_ge (tgt := 54) dX9_spread_27 rfl (fun c1 => ?_) (fun c1 => ?_)
    · refine go_iload_n 2 dX9_spread_54 rfl rfl ?_
      refine go_iload_n 1 dX9_spread_55 rfl rfl ?_
      refine gx_isub (v := ((fo (fun e (s : Int × Int) => (min s.1 (M x e), max s.2 (M x e))) k (M x 0, M x 0)).2 - (fo (fun e (s : Int × Int) => (min s.1 (M x e), max s.2 (M x e))) k (M x 0, M x 0)).1)) dX9_spread_56 rfl ⟨by omega, by omega⟩ ?_
      refine go_iret dX9_spread_57 rfl rfl ⟨_, rfl, ?_⟩
      rw [show k = E by omega]
      exact hQ
    · refine go_iload_n 1 dX9_spread_30 rfl rfl ?_
      refine go_aload_n 3 dX9_spread_31 rfl rfl ?_
      refine go_iload 0 dX9_spread_32 rfl ?_
      have f2 := hg k (by omega)
      refine gx_iaload (v := (M x k)) k dX9_spread_34 hx.1 hx.2.1 hx.2.2 rfl (by omega) rfl ?_
      refine gx_min (v := (min ((fo (fun e (s : Int × Int) => (min s.1 (M x e), max s.2 (M x e))) k (M x 0, M x 0)).1) (M x k))) dX9_spread_35 mm9_309 (by decide) (Nat.le_of_ble_eq_true rfl) rfl ?_
      refine go_istore_n (lv' := [(2, vI (min ((fo (fun e (s : Int × Int) => (min s.1 (M x e), max s.2 (M x e))) k (M x 0, M x 0)).1) (M x k))), (4, vI ((k : Nat) : Int)), (3, vI ((fo (fun e (s : Int × Int) => (min s.1 (M x e), max s.2 (M x e))) k (M x 0, M x 0)).2)), (0, vR x), (1, vI ((E : Nat) : Int))]) dX9_spread_38 rfl (by decide) rfl ?_
      refine go_iload_n 2 dX9_spread_39 rfl rfl ?_
      refine go_aload_n 3 dX9_spread_40 rfl rfl ?_
      refine go_iload 1 dX9_spread_41 rfl ?_
      have f3 := hg k (by omega)
      refine gx_iaload (v := (M x k)) k dX9_spread_43 hx.1 hx.2.1 hx.2.2 rfl (by omega) rfl ?_
      refine gx_max (v := (max ((fo (fun e (s : Int × Int) => (min s.1 (M x e), max s.2 (M x e))) k (M x 0, M x 0)).2) (M x k))) dX9_spread_44 mm9_314 (by decide) (Nat.le_of_ble_eq_true rfl) rfl ?_
      refine go_istore_n (lv' := [(3, vI (max ((fo (fun e (s : Int × Int) => (min s.1 (M x e), max s.2 (M x e))) k (M x 0, M x 0)).2) (M x k))), (2, vI (min ((fo (fun e (s : Int × Int) => (min s.1 (M x e), max s.2 (M x e))) k (M x 0, M x 0)).1) (M x k))), (4, vI ((k : Nat) : Int)), (0, vR x), (1, vI ((E : Nat) : Int))]) dX9_spread_47 rfl (by decide) rfl ?_
      refine gx_iinc (v := ((k + 1 : Nat) : Int)) (lv' := [(4, vI ((k + 1 : Nat) : Int)), (3, vI (max ((fo (fun e (s : Int × Int) => (min s.1 (M x e), max s.2 (M x e))) k (M x 0, M x 0)).2) (M x k))), (2, vI (min ((fo (fun e (s : Int × Int) => (min s.1 (M x e), max s.2 (M x e))) k (M x 0, M x 0)).1) (M x k))), (0, vR x), (1, vI ((E : Nat) : Int))]) 2 dX9_spread_48 rfl (by omega) ⟨by omega, by omega⟩ (by decide) rfl ?_
      refine go_goto (tgt := 24) dX9_spread_51 rfl ?_
      refine go_lv [0, 2, 1, 3, 4] rfl ?_
      have e4 : (min ((fo (fun e (s : Int × Int) => (min s.1 (M x e), max s.2 (M x e))) k (M x 0, M x 0)).1) (M x k)) = (fo (fun e (s : Int × Int) => (min s.1 (M x e), max s.2 (M x e))) (k + 1) (M x 0, M x 0)).1 := by rfl
      rw [e4]
      have e5 : (max ((fo (fun e (s : Int × Int) => (min s.1 (M x e), max s.2 (M x e))) k (M x 0, M x 0)).2) (M x k)) = (fo (fun e (s : Int × Int) => (min s.1 (M x e), max s.2 (M x e))) (k + 1) (M x 0, M x 0)).2 := by rfl
      rw [e5]
      exact ih (k + 1) (by omega) (by omega) (by omega)

set_option maxHeartbeats 4000000 in
set_option maxRecDepth 100000 in
theorem ok_X9_spread {w x E : Nat} {M : inm} {Q : Int → Nat → rfm → inm → Prop} (hx : kd x = 11 ∧ x < 303 ∧ ln x = 5) (hE : 1 ≤ E ∧ E ≤ 5) (hg : ∀ e, e < 5 → 0 ≤ M x e ∧ M x e ≤ 20000) (hQ : Q (spreadV (fun e => M x e) E) 303 (PP w) M) : OkI yX9_spread cX9_spread 5 1 0 0 (some .int) [vR x, vI ((E : Nat) : Int)] 303 (PP w) M Q := by
  refine OkI.of (by decide +kernel) (by decide +kernel) (Nat.le_of_ble_eq_true rfl) ?_
  refine go_eq (lv' := [(0, vR x), (1, vI ((E : Nat) : Int))]) rfl rfl rfl rfl rfl ?_
  refine go_iload_n 1 dX9_spread_0 rfl rfl ?_
  refine go_iconst dX9_spread_1 (by decide) ?_
  refine go_icmp_lt (tgt := 11) dX9_spread_2 rfl (fun c1 => ?_) (fun c1 => ?_)
  · exact absurd c1 (by omega)
  · refine go_iload_n 1 dX9_spread_5 rfl rfl ?_
    refine go_aload_n 0 dX9_spread_6 rfl rfl ?_
    refine go_alen (c0 := 0) dX9_spread_7 hx.1 (by decide) hx.2.1 (by rw [hx.2.2]; decide) ?_
    rw [hx.2.2]
    refine go_icmp_le (tgt := 13) dX9_spread_8 rfl (fun c2 => ?_) (fun c2 => ?_)
    · refine go_aload_n 0 dX9_spread_13 rfl rfl ?_
      refine go_iconst dX9_spread_14 (by decide) ?_
      refine gx_iaload (v := (M x 0)) 0 dX9_spread_15 hx.1 hx.2.1 hx.2.2 (by omega) (by omega) rfl ?_
      refine go_istore_n (lv' := [(2, vI (M x 0)), (0, vR x), (1, vI ((E : Nat) : Int))]) dX9_spread_16 rfl (by decide) rfl ?_
      refine go_aload_n 1 dX9_spread_17 rfl rfl ?_
      refine go_iconst dX9_spread_18 (by decide) ?_
      refine gx_iaload (v := (M x 0)) 0 dX9_spread_19 hx.1 hx.2.1 hx.2.2 (by omega) (by omega) rfl ?_
      refine go_istore_n (lv' := [(3, vI (M x 0)), (2, vI (M x 0)), (0, vR x), (1, vI ((E : Nat) : Int))]) dX9_spread_20 rfl (by decide) rfl ?_
      refine go_iconst dX9_spread_21 (by decide) ?_
      refine go_istore (lv' := [(4, vI 1), (3, vI (M x 0)), (2, vI (M x 0)), (0, vR x), (1, vI ((E : Nat) : Int))]) dX9_spread_22 (by decide) rfl ?_
      refine go_lv [0, 2, 1, 3, 4] rfl ?_
      refine go_eq (lv' := [(4, vI 1), (2, vI ((fo (fun e (s : Int × Int) => (min s.1 (M x e), max s.2 (M x e))) 1 (M x 0, M x 0)).1)), (3, vI ((fo (fun e (s : Int × Int) => (min s.1 (M x e), max s.2 (M x e))) 1 (M x 0, M x 0)).2)), (0, vR x), (1, vI ((E : Nat) : Int))]) (by show _ = [(4, vI 1), (2, vI (min (M x 0) (M x 0))), (3, vI (max (M x 0) (M x 0))), (0, vR x), (1, vI ((E : Nat) : Int))]; rw [Int.min_self, Int.max_self]; rfl) rfl rfl rfl rfl ?_
      exact lp_X9_spread hx hE hg hQ (E + 1) 1 (by omega) (by omega) (by omega)
    · exact absurd c2 (by omega)

set_option maxHeartbeats 4000000 in
set_option maxRecDepth 100000 in
theorem ok_X9_spread0 {w x : Nat} {M : inm} {Q : Int → Nat → rfm → inm → Prop} (hQ : Q 0 303 (PP w) M) : OkI yX9_spread cX9_spread 5 1 0 0 (some .int) [vR x, vI 0] 303 (PP w) M Q := by
  refine OkI.of (by decide +kernel) (by decide +kernel) (Nat.le_of_ble_eq_true rfl) ?_
  refine go_eq (lv' := [(0, vR x), (1, vI 0)]) rfl rfl rfl rfl rfl ?_
  refine go_iload_n 1 dX9_spread_0 rfl rfl ?_
  refine go_iconst dX9_spread_1 (by decide) ?_
  refine go_icmp_lt (tgt := 11) dX9_spread_2 rfl (fun c1 => ?_) (fun c1 => ?_)
  · refine go_iconst dX9_spread_11 (by decide) ?_
    refine go_iret dX9_spread_12 rfl rfl ⟨_, rfl, ?_⟩
    exact hQ
  · exact absurd c1 (by omega)

set_option maxHeartbeats 4000000 in
set_option maxRecDepth 100000 in
theorem spread_any {w x E : Nat} {M : inm} {Q : Int → Nat → rfm → inm → Prop} (hx : kd x = 11 ∧ x < 303 ∧ ln x = 5) (hE : E ≤ 5) (hg : ∀ e, e < 5 → 0 ≤ M x e ∧ M x e ≤ 20000) (hQ : Q (if E = 0 then 0 else spreadV (fun e => M x e) E) 303 (PP w) M) : OkI yX9_spread cX9_spread 5 1 0 0 (some .int) [vR x, vI ((E : Nat) : Int)] 303 (PP w) M Q := by
  by_cases h : E = 0
  · subst h
    exact ok_X9_spread0 hQ
  · rw [if_neg h] at hQ
    exact ok_X9_spread hx (by omega) hg hQ
set_option maxHeartbeats 4000000 in
set_option maxRecDepth 100000 in
theorem ok_X9_told {w L T E U : Nat} {lt : Nat → Nat} {M : inm} {a : Int} {Q : Int → Nat → rfm → inm → Prop} (hw : Cs w) (hL : Lay M 30 L) (hT : Tys M w T lt) (hE : M w 3 = (E : Int) ∧ E ≤ 5) (hB : Bd M 30 U) (hca : ∀ e, e < E → 0 ≤ M (w + 3) e ∧ M (w + 3) e ≤ 9) (hqu : ∀ e, e < E → 1 ≤ M (w + 4) e ∧ M (w + 4) e ≤ 9) (hQ : Q (sel [(if M w 0 = 0 then 0 else 1), (L : Int), (E : Int), (T : Int), (M 1 2), (M 30 8), (if M 30 9 = 0 then 0 else 1), (if M 30 10 = 0 then 0 else M w 1), (sumTo (fun j => M 32 j) L), (cutV (fun j => M 32 j) L), ((orTo (setG (begV lt (fun t k => M (w + 7 + t) k) (fun j => M 31 j) L)) T : Nat) : Int), (sureC (fun u => decide (0 < cntTo (nextP lt (fun t k => M (w + 7 + t) k) (fun j => M 31 j) L (u : Int)) T)) 5 0 (-1)), ((orTo (lawG (fun j => M 31 j)) (max L 1) : Nat) : Int), (if E = 0 then 0 else spreadV (fun e => M 33 e) E), (fo (weepG (fun e => M 34 e)) E (-1, -1)).1, (fo (dryG (fun e => M 34 e) (fun e => M (w + 4) e)) E 0), (M 30 7), (M 266 3), (M 270 2), (M 37 2)] a (-1000000002)) 303 (PP w) M) : OkI yX9_told cX9_told 2 4 0 0 (some .int) [vR 0, vI a] 303 (PP w) M Q := by
  refine OkI.of (by decide +kernel) (by decide +kernel) (Nat.le_of_ble_eq_true rfl) ?_
  refine go_eq (lv' := [(0, vR 0), (1, vI a)]) rfl rfl rfl rfl rfl ?_
  refine go_iload_n 1 dX9_told_0 rfl rfl ?_
  by_cases s1 : a = 0
  · refine go_tblIn (tgt := 96) dX9_told_1 (by omega) (by omega) (by rw [s1]; rfl) rfl ?_
    refine go_aload_n 0 dX9_told_96 rfl rfl ?_
    refine go_getR (r := w) dX9_told_97 lk9_19.get kd_0 (by omega) rfl (pp_0_1 w) ?_
    refine gx_getI (v := (M w 0)) dX9_told_100 lk9_108.get hw.k0 hw.l0 rfl rfl ?_
    refine go_if_eq (tgt := 110) dX9_told_103 rfl (fun c2 => ?_) (fun c2 => ?_)
    · refine go_iconst dX9_told_110 (by decide) ?_
      refine go_iret dX9_told_111 rfl rfl ⟨_, rfl, ?_⟩
      rw [sel_at 0 (by omega) rfl] at hQ
      first | (rw [if_pos (by omega)] at hQ; exact hQ) | (rw [if_neg (by omega)] at hQ; exact hQ)
    · refine go_iconst dX9_told_106 (by decide) ?_
      refine go_goto (tgt := 111) dX9_told_107 rfl ?_
      refine go_iret dX9_told_111 rfl rfl ⟨_, rfl, ?_⟩
      rw [sel_at 0 (by omega) rfl] at hQ
      first | (rw [if_pos (by omega)] at hQ; exact hQ) | (rw [if_neg (by omega)] at hQ; exact hQ)
  · skip
    by_cases s3 : a = 1
    · refine go_tblIn (tgt := 112) dX9_told_1 (by omega) (by omega) (by rw [s3]; rfl) rfl ?_
      refine go_aload_n 0 dX9_told_112 rfl rfl ?_
      refine go_getR (r := 30) dX9_told_113 lk9_29.get kd_0 (by omega) rfl (pp_0_3 w) ?_
      refine gx_getI (v := ((L : Nat) : Int)) dX9_told_116 lk9_102.get kd_30 (by omega) rfl hL.1 ?_
      refine go_iret dX9_told_119 rfl rfl ⟨_, rfl, ?_⟩
      rw [sel_at 1 (by omega) rfl] at hQ
      exact hQ
    · skip
      by_cases s4 : a = 2
      · refine go_tblIn (tgt := 120) dX9_told_1 (by omega) (by omega) (by rw [s4]; rfl) rfl ?_
        refine go_aload_n 0 dX9_told_120 rfl rfl ?_
        refine go_getR (r := w) dX9_told_121 lk9_19.get kd_0 (by omega) rfl (pp_0_1 w) ?_
        refine gx_getI (v := ((E : Nat) : Int)) dX9_told_124 lk9_111.get hw.k0 hw.l0 rfl hE.1 ?_
        refine go_iret dX9_told_127 rfl rfl ⟨_, rfl, ?_⟩
        rw [sel_at 2 (by omega) rfl] at hQ
        exact hQ
      · skip
        by_cases s5 : a = 3
        · refine go_tblIn (tgt := 128) dX9_told_1 (by omega) (by omega) (by rw [s5]; rfl) rfl ?_
          refine go_aload_n 0 dX9_told_128 rfl rfl ?_
          refine go_getR (r := w) dX9_told_129 lk9_19.get kd_0 (by omega) rfl (pp_0_1 w) ?_
          refine gx_getI (v := ((T : Nat) : Int)) dX9_told_132 lk9_114.get hw.k0 hw.l0 rfl hT.1 ?_
          refine go_iret dX9_told_135 rfl rfl ⟨_, rfl, ?_⟩
          rw [sel_at 3 (by omega) rfl] at hQ
          exact hQ
        · skip
          by_cases s6 : a = 4
          · refine go_tblIn (tgt := 136) dX9_told_1 (by omega) (by omega) (by rw [s6]; rfl) rfl ?_
            refine go_aload_n 0 dX9_told_136 rfl rfl ?_
            refine go_getR (r := 1) dX9_told_137 lk9_10.get kd_0 (by omega) rfl (pp_0_0 w) ?_
            refine gx_getI (v := (M 1 2)) dX9_told_140 lk9_117.get kd_1 (by omega) rfl rfl ?_
            refine go_iret dX9_told_143 rfl rfl ⟨_, rfl, ?_⟩
            rw [sel_at 4 (by omega) rfl] at hQ
            exact hQ
          · skip
            by_cases s7 : a = 5
            · refine go_tblIn (tgt := 144) dX9_told_1 (by omega) (by omega) (by rw [s7]; rfl) rfl ?_
              refine go_aload_n 0 dX9_told_144 rfl rfl ?_
              refine go_getR (r := 30) dX9_told_145 lk9_29.get kd_0 (by omega) rfl (pp_0_3 w) ?_
              refine gx_getI (v := (M 30 8)) dX9_told_148 lk9_120.get kd_30 (by omega) rfl rfl ?_
              refine go_iret dX9_told_151 rfl rfl ⟨_, rfl, ?_⟩
              rw [sel_at 5 (by omega) rfl] at hQ
              exact hQ
            · skip
              by_cases s8 : a = 6
              · refine go_tblIn (tgt := 152) dX9_told_1 (by omega) (by omega) (by rw [s8]; rfl) rfl ?_
                refine go_aload_n 0 dX9_told_152 rfl rfl ?_
                refine go_getR (r := 30) dX9_told_153 lk9_29.get kd_0 (by omega) rfl (pp_0_3 w) ?_
                refine gx_getI (v := (M 30 9)) dX9_told_156 lk9_123.get kd_30 (by omega) rfl rfl ?_
                refine go_if_eq (tgt := 166) dX9_told_159 rfl (fun c9 => ?_) (fun c9 => ?_)
                · refine go_iconst dX9_told_166 (by decide) ?_
                  refine go_iret dX9_told_167 rfl rfl ⟨_, rfl, ?_⟩
                  rw [sel_at 6 (by omega) rfl] at hQ
                  first | (rw [if_pos (by omega)] at hQ; exact hQ) | (rw [if_neg (by omega)] at hQ; exact hQ)
                · refine go_iconst dX9_told_162 (by decide) ?_
                  refine go_goto (tgt := 167) dX9_told_163 rfl ?_
                  refine go_iret dX9_told_167 rfl rfl ⟨_, rfl, ?_⟩
                  rw [sel_at 6 (by omega) rfl] at hQ
                  first | (rw [if_pos (by omega)] at hQ; exact hQ) | (rw [if_neg (by omega)] at hQ; exact hQ)
              · skip
                by_cases s10 : a = 7
                · refine go_tblIn (tgt := 168) dX9_told_1 (by omega) (by omega) (by rw [s10]; rfl) rfl ?_
                  refine go_aload_n 0 dX9_told_168 rfl rfl ?_
                  refine go_getR (r := 30) dX9_told_169 lk9_29.get kd_0 (by omega) rfl (pp_0_3 w) ?_
                  refine gx_getI (v := (M 30 10)) dX9_told_172 lk9_126.get kd_30 (by omega) rfl rfl ?_
                  refine go_if_eq (tgt := 188) dX9_told_175 rfl (fun c11 => ?_) (fun c11 => ?_)
                  · refine go_iconst dX9_told_188 (by decide) ?_
                    refine go_iret dX9_told_189 rfl rfl ⟨_, rfl, ?_⟩
                    rw [sel_at 7 (by omega) rfl] at hQ
                    first | (rw [if_pos (by omega)] at hQ; exact hQ) | (rw [if_neg (by omega)] at hQ; exact hQ)
                  · refine go_aload_n 0 dX9_told_178 rfl rfl ?_
                    refine go_getR (r := w) dX9_told_179 lk9_19.get kd_0 (by omega) rfl (pp_0_1 w) ?_
                    refine gx_getI (v := (M w 1)) dX9_told_182 lk9_129.get hw.k0 hw.l0 rfl rfl ?_
                    refine go_goto (tgt := 189) dX9_told_185 rfl ?_
                    refine go_iret dX9_told_189 rfl rfl ⟨_, rfl, ?_⟩
                    rw [sel_at 7 (by omega) rfl] at hQ
                    first | (rw [if_pos (by omega)] at hQ; exact hQ) | (rw [if_neg (by omega)] at hQ; exact hQ)
                · skip
                  by_cases s12 : a = 8
                  · refine go_tblIn (tgt := 190) dX9_told_1 (by omega) (by omega) (by rw [s12]; rfl) rfl ?_
                    refine go_aload_n 0 dX9_told_190 rfl rfl ?_
                    refine go_getR (r := 30) dX9_told_191 lk9_29.get kd_0 (by omega) rfl (pp_0_3 w) ?_
                    refine go_callVI (av := []) (st := []) (a := 30) (mc2 := 0) (ms2 := 0) dX9_told_194 cw9_132 (by decide) rfl rfl (Nat.le_of_ble_eq_true rfl) rfl rfl kd_30 ⟨_, _, rfl⟩ (by decide) (by omega) (ok_X6_allThick On_30 hL ?_)
                    refine go_iret dX9_told_197 rfl rfl ⟨_, rfl, ?_⟩
                    rw [sel_at 8 (by omega) rfl] at hQ
                    exact hQ
                  · skip
                    by_cases s13 : a = 9
                    · refine go_tblIn (tgt := 198) dX9_told_1 (by omega) (by omega) (by rw [s13]; rfl) rfl ?_
                      refine go_aload_n 0 dX9_told_198 rfl rfl ?_
                      refine go_getR (r := 30) dX9_told_199 lk9_29.get kd_0 (by omega) rfl (pp_0_3 w) ?_
                      refine go_callVI (av := []) (st := []) (a := 30) (mc2 := 0) (ms2 := 0) dX9_told_202 cw9_136 (by decide) rfl rfl (Nat.le_of_ble_eq_true rfl) rfl rfl kd_30 ⟨_, _, rfl⟩ (by decide) (by omega) (ok_X6_cut On_30 hL ?_)
                      refine go_iret dX9_told_205 rfl rfl ⟨_, rfl, ?_⟩
                      rw [sel_at 9 (by omega) rfl] at hQ
                      exact hQ
                    · skip
                      by_cases s14 : a = 10
                      · refine go_tblIn (tgt := 206) dX9_told_1 (by omega) (by omega) (by rw [s14]; rfl) rfl ?_
                        refine go_aload_n 0 dX9_told_206 rfl rfl ?_
                        refine go_getR (r := w) dX9_told_207 lk9_19.get kd_0 (by omega) rfl (pp_0_1 w) ?_
                        refine go_aload_n 0 dX9_told_210 rfl rfl ?_
                        refine go_getR (r := 30) dX9_told_211 lk9_29.get kd_0 (by omega) rfl (pp_0_3 w) ?_
                        refine go_callVI (av := [vR 30]) (st := []) (a := w) (mc2 := 0) (ms2 := 0) dX9_told_214 cw9_139 (by decide) rfl rfl (Nat.le_of_ble_eq_true rfl) rfl rfl hw.k0 ⟨_, _, rfl⟩ (by decide) hw.l0 (ok_X1_canBe On_30 hw hT hL ?_)
                        refine go_iret dX9_told_217 rfl rfl ⟨_, rfl, ?_⟩
                        rw [sel_at 10 (by omega) rfl] at hQ
                        exact hQ
                      · skip
                        by_cases s15 : a = 11
                        · refine go_tblIn (tgt := 218) dX9_told_1 (by omega) (by omega) (by rw [s15]; rfl) rfl ?_
                          refine go_aload_n 0 dX9_told_218 rfl rfl ?_
                          refine go_getR (r := w) dX9_told_219 lk9_19.get kd_0 (by omega) rfl (pp_0_1 w) ?_
                          refine go_aload_n 0 dX9_told_222 rfl rfl ?_
                          refine go_getR (r := 30) dX9_told_223 lk9_29.get kd_0 (by omega) rfl (pp_0_3 w) ?_
                          refine go_callVI (av := [vR 30]) (st := []) (a := w) (mc2 := 0) (ms2 := 0) dX9_told_226 cw9_143 (by decide) rfl rfl (Nat.le_of_ble_eq_true rfl) rfl rfl hw.k0 ⟨_, _, rfl⟩ (by decide) hw.l0 (ok_X1_sureKind On_30 hw hT hL ?_)
                          refine go_iret dX9_told_229 rfl rfl ⟨_, rfl, ?_⟩
                          rw [sel_at 11 (by omega) rfl] at hQ
                          exact hQ
                        · skip
                          by_cases s16 : a = 12
                          · refine go_tblIn (tgt := 230) dX9_told_1 (by omega) (by omega) (by rw [s16]; rfl) rfl ?_
                            refine go_aload_n 0 dX9_told_230 rfl rfl ?_
                            refine go_getR (r := 30) dX9_told_231 lk9_29.get kd_0 (by omega) rfl (pp_0_3 w) ?_
                            refine go_callVI (av := []) (st := []) (a := 30) (mc2 := 0) (ms2 := 0) dX9_told_234 cw9_146 (by decide) rfl rfl (Nat.le_of_ble_eq_true rfl) rfl rfl kd_30 ⟨_, _, rfl⟩ (by decide) (by omega) (ok_X6_law On_30 hL ?_)
                            refine go_iret dX9_told_237 rfl rfl ⟨_, rfl, ?_⟩
                            rw [sel_at 12 (by omega) rfl] at hQ
                            exact hQ
                          · skip
                            by_cases s17 : a = 13
                            · refine go_tblIn (tgt := 238) dX9_told_1 (by omega) (by omega) (by rw [s17]; rfl) rfl ?_
                              refine go_aload_n 0 dX9_told_238 rfl rfl ?_
                              refine go_getR (r := 30) dX9_told_239 lk9_29.get kd_0 (by omega) rfl (pp_0_3 w) ?_
                              refine go_getR (r := 33) dX9_told_242 lk9_149 kd_30 (by omega) rfl (pp_30_3 w) ?_
                              refine go_aload_n 0 dX9_told_245 rfl rfl ?_
                              refine go_getR (r := w) dX9_told_246 lk9_19.get kd_0 (by omega) rfl (pp_0_1 w) ?_
                              refine gx_getI (v := ((E : Nat) : Int)) dX9_told_249 lk9_111.get hw.k0 hw.l0 rfl hE.1 ?_
                              refine go_callSI (av := [vR 33, vI ((E : Nat) : Int)]) (st := []) (mc2 := 0) (ms2 := 0) dX9_told_252 cw9_153 (by decide) rfl rfl (Nat.le_of_ble_eq_true rfl) rfl rfl (spread_any (x := 33) ⟨kd_33, by omega, ln_33⟩ hE.2 (fun e he => ⟨(hB.1 e he).1, Int.le_trans (hB.1 e he).2 (by decide)⟩) ?_)
                              refine go_iret dX9_told_255 rfl rfl ⟨_, rfl, ?_⟩
                              rw [sel_at 13 (by omega) rfl] at hQ
                              exact hQ
                            · skip
                              by_cases s18 : a = 14
                              · refine go_tblIn (tgt := 256) dX9_told_1 (by omega) (by omega) (by rw [s18]; rfl) rfl ?_
                                refine go_aload_n 0 dX9_told_256 rfl rfl ?_
                                refine go_getR (r := 30) dX9_told_257 lk9_29.get kd_0 (by omega) rfl (pp_0_3 w) ?_
                                refine go_aload_n 0 dX9_told_260 rfl rfl ?_
                                refine go_getR (r := w) dX9_told_261 lk9_19.get kd_0 (by omega) rfl (pp_0_1 w) ?_
                                refine gx_getI (v := ((E : Nat) : Int)) dX9_told_264 lk9_111.get hw.k0 hw.l0 rfl hE.1 ?_
                                refine go_callVI (av := [vI ((E : Nat) : Int)]) (st := []) (a := 30) (mc2 := 0) (ms2 := 0) dX9_told_267 cw9_157 (by decide) rfl rfl (Nat.le_of_ble_eq_true rfl) rfl rfl kd_30 ⟨_, _, rfl⟩ (by decide) (by omega) (ok_X6_mostTears On_30 hE.2 ?_)
                                refine go_iret dX9_told_270 rfl rfl ⟨_, rfl, ?_⟩
                                rw [sel_at 14 (by omega) rfl] at hQ
                                exact hQ
                              · skip
                                by_cases s19 : a = 15
                                · refine go_tblIn (tgt := 271) dX9_told_1 (by omega) (by omega) (by rw [s19]; rfl) rfl ?_
                                  refine go_aload_n 0 dX9_told_271 rfl rfl ?_
                                  refine go_getR (r := 30) dX9_told_272 lk9_29.get kd_0 (by omega) rfl (pp_0_3 w) ?_
                                  refine go_aload_n 0 dX9_told_275 rfl rfl ?_
                                  refine go_getR (r := w) dX9_told_276 lk9_19.get kd_0 (by omega) rfl (pp_0_1 w) ?_
                                  refine go_callVI (av := [vR w]) (st := []) (a := 30) (mc2 := 0) (ms2 := 0) dX9_told_279 cw9_160 (by decide) rfl rfl (Nat.le_of_ble_eq_true rfl) rfl rfl kd_30 ⟨_, _, rfl⟩ (by decide) (by omega) (ok_X6_dryIn On_30 hw hE (fun e he => hB.2.1 e (by omega)) hqu ?_)
                                  refine go_iret dX9_told_282 rfl rfl ⟨_, rfl, ?_⟩
                                  rw [sel_at 15 (by omega) rfl] at hQ
                                  exact hQ
                                · skip
                                  by_cases s20 : a = 16
                                  · refine go_tblIn (tgt := 283) dX9_told_1 (by omega) (by omega) (by rw [s20]; rfl) rfl ?_
                                    refine go_aload_n 0 dX9_told_283 rfl rfl ?_
                                    refine go_getR (r := 30) dX9_told_284 lk9_29.get kd_0 (by omega) rfl (pp_0_3 w) ?_
                                    refine gx_getI (v := (M 30 7)) dX9_told_287 lk9_164.get kd_30 (by omega) rfl rfl ?_
                                    refine go_iret dX9_told_290 rfl rfl ⟨_, rfl, ?_⟩
                                    rw [sel_at 16 (by omega) rfl] at hQ
                                    exact hQ
                                  · skip
                                    by_cases s21 : a = 17
                                    · refine go_tblIn (tgt := 291) dX9_told_1 (by omega) (by omega) (by rw [s21]; rfl) rfl ?_
                                      refine go_aload_n 0 dX9_told_291 rfl rfl ?_
                                      refine go_getR (r := 266) dX9_told_292 lk9_50.get kd_0 (by omega) rfl (pp_0_6 w) ?_
                                      refine gx_getI (v := (M 266 3)) dX9_told_295 lk9_91.get kd_266 (by omega) rfl rfl ?_
                                      refine go_iret dX9_told_298 rfl rfl ⟨_, rfl, ?_⟩
                                      rw [sel_at 17 (by omega) rfl] at hQ
                                      exact hQ
                                    · skip
                                      by_cases s22 : a = 18
                                      · refine go_tblIn (tgt := 299) dX9_told_1 (by omega) (by omega) (by rw [s22]; rfl) rfl ?_
                                        refine go_aload_n 0 dX9_told_299 rfl rfl ?_
                                        refine go_getR (r := 270) dX9_told_300 lk9_57.get kd_0 (by omega) rfl (pp_0_7 w) ?_
                                        refine gx_getI (v := (M 270 2)) dX9_told_303 lk9_94.get kd_270 (by omega) rfl rfl ?_
                                        refine go_iret dX9_told_306 rfl rfl ⟨_, rfl, ?_⟩
                                        rw [sel_at 18 (by omega) rfl] at hQ
                                        exact hQ
                                      · skip
                                        by_cases s23 : a = 19
                                        · refine go_tblIn (tgt := 307) dX9_told_1 (by omega) (by omega) (by rw [s23]; rfl) rfl ?_
                                          refine go_aload_n 0 dX9_told_307 rfl rfl ?_
                                          refine go_getR (r := 37) dX9_told_308 lk9_36.get kd_0 (by omega) rfl (pp_0_4 w) ?_
                                          refine gx_getI (v := (M 37 2)) dX9_told_311 lk9_167.get kd_37 (by omega) rfl rfl ?_
                                          refine go_iret dX9_told_314 rfl rfl ⟨_, rfl, ?_⟩
                                          rw [sel_at 19 (by omega) rfl] at hQ
                                          exact hQ
                                        · skip
                                          refine go_tblOut (tgt := 315) dX9_told_1 (by omega) rfl ?_
                                          refine go_ldc dX9_told_315 ik9_75 (by decide) ?_
                                          refine go_iret dX9_told_317 rfl rfl ⟨_, rfl, ?_⟩
                                          rw [sel_out 20 rfl (by omega)] at hQ
                                          exact hQ

