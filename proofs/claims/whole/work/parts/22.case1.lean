/-! ===== Case: what is read off it ===== -/
def allTo (p : Nat → Bool) : Nat → Bool
  | 0 => true
  | n + 1 => allTo p n && p n
theorem allTo_no {p : Nat → Bool} {k : Nat} (h : p k = false) : ∀ n, k < n → allTo p n = false
  | 0, hk => absurd hk (by omega)
  | n + 1, hk => by
    show (allTo p n && p n) = false
    rcases Nat.lt_or_ge k n with q | q
    · rw [allTo_no h n q]; rfl
    · rw [show n = k by omega, h, Bool.and_false]
theorem allTo_s {p : Nat → Bool} {k : Nat} (h : allTo p k = true) (hk : p k = true) : allTo p (k + 1) = true := by
  show (allTo p k && p k) = true
  rw [h, hk]; rfl
theorem allTo_congr {p q : Nat → Bool} : ∀ n, (∀ j, j < n → p j = q j) → allTo p n = allTo q n
  | 0, _ => rfl
  | n + 1, h => by
    show (allTo p n && p n) = (allTo q n && q n)
    rw [allTo_congr n (fun j hj => h j (by omega)), h n (by omega)]
def cntTo (p : Nat → Bool) : Nat → Nat
  | 0 => 0
  | n + 1 => cntTo p n + (if p n = true then 1 else 0)
theorem cntTo_le {p : Nat → Bool} : ∀ n, cntTo p n ≤ n
  | 0 => Nat.le_refl 0
  | n + 1 => by
    have := cntTo_le (p := p) n
    show cntTo p n + _ ≤ n + 1
    split <;> omega
theorem cntTo_congr {p q : Nat → Bool} : ∀ n, (∀ j, j < n → p j = q j) → cntTo p n = cntTo q n
  | 0, _ => rfl
  | n + 1, h => by
    show cntTo p n + _ = cntTo q n + _
    rw [cntTo_congr n (fun j hj => h j (by omega)), h n (by omega)]
/-- the TYPES of the Case at v: T of them, type t of lt t KINDS -/
def Tys (M : inm) (v T : Nat) (lt : Nat → Nat) : Prop := M v 4 = (T : Int) ∧ T ≤ 6 ∧ (∀ t, t < T → M (v + 5) t = (lt t : Int) ∧ lt t ≤ 8) ∧ ∀ t, t < T → ∀ k, k < lt t → 0 ≤ M (v + 7 + t) k ∧ M (v + 7 + t) k ≤ 4
def kindV (lt : Nat → Nat) (K : Nat → Nat → Int) (t k : Nat) : Int := if k < lt t then K t k else -1
def begV (lt : Nat → Nat) (K : Nat → Nat → Int) (c : Nat → Int) (L t : Nat) : Bool := allTo (fun k => decide (K t k = c k)) (min (lt t) L)
def setG (p : Nat → Bool) (t : Nat) : Nat := if p t = true then 2 ^ t else 0
def nextP (lt : Nat → Nat) (K : Nat → Nat → Int) (c : Nat → Int) (L : Nat) (u : Int) (t : Nat) : Bool := decide (kindV lt K t L = u) && begV lt K c L t
/-- SURE, as the class goes -/
def sureC (p : Nat → Bool) : Nat → Nat → Int → Int
  | 0, _, s => s
  | d + 1, k, s => if p k = true then (if s = -1 then sureC p d (k + 1) (k : Int) else -1) else sureC p d (k + 1) s
set_option maxHeartbeats 4000000 in
set_option maxRecDepth 100000 in
theorem ok_X1_hasExecutor {v w : Nat} {e : Int} {M : inm} {Q : Int → Nat → rfm → inm → Prop} (hv : Cs v) (h1 : 0 ≤ e → e < M v 3 → Q 1 303 (PP w) M) (h0 : ¬ (0 ≤ e ∧ e < M v 3) → Q 0 303 (PP w) M) : OkI yX1_hasExecutor cX1_hasExecutor 2 0 0 0 (some .boolean) [vR v, vI e] 303 (PP w) M Q := by
  refine OkI.of (by decide +kernel) (by decide +kernel) (Nat.le_of_ble_eq_true rfl) ?_
  refine go_eq (lv' := [(0, vR v), (1, vI e)]) rfl rfl rfl rfl rfl ?_
  refine go_iload_n 1 dX1_hasExecutor_0 rfl rfl ?_
  refine go_if_lt (tgt := 16) dX1_hasExecutor_1 rfl (fun c1 => ?_) (fun c1 => ?_)
  · refine go_iconst dX1_hasExecutor_16 (by decide) ?_
    refine go_iret dX1_hasExecutor_17 rfl rfl ⟨_, rfl, ?_⟩
    first | exact h1 (by omega) (by omega) | exact h0 (by omega)
  · refine go_iload_n 1 dX1_hasExecutor_4 rfl rfl ?_
    refine go_aload_n 0 dX1_hasExecutor_5 rfl rfl ?_
    refine gx_getI (v := (M v 3)) dX1_hasExecutor_6 lk1_22.get hv.k0 hv.l0 rfl rfl ?_
    refine go_icmp_ge (tgt := 16) dX1_hasExecutor_9 rfl (fun c2 => ?_) (fun c2 => ?_)
    · refine go_iconst dX1_hasExecutor_16 (by decide) ?_
      refine go_iret dX1_hasExecutor_17 rfl rfl ⟨_, rfl, ?_⟩
      first | exact h1 (by omega) (by omega) | exact h0 (by omega)
    · refine go_iconst dX1_hasExecutor_12 (by decide) ?_
      refine go_goto (tgt := 17) dX1_hasExecutor_13 rfl ?_
      refine go_iret dX1_hasExecutor_17 rfl rfl ⟨_, rfl, ?_⟩
      first | exact h1 (by omega) (by omega) | exact h0 (by omega)

set_option maxHeartbeats 4000000 in
set_option maxRecDepth 100000 in
theorem ok_X1_kindOfType {v w T t k : Nat} {lt : Nat → Nat} {M : inm} {Q : Int → Nat → rfm → inm → Prop} (hv : Cs v) (hT : Tys M v T lt) (ht : t < T) (hQ : Q (kindV lt (fun t k => M (v + 7 + t) k) t k) 303 (PP w) M) : OkI yX1_kindOfType cX1_kindOfType 3 0 0 0 (some .int) [vR v, vI ((t : Nat) : Int), vI ((k : Nat) : Int)] 303 (PP w) M Q := by
  refine OkI.of (by decide +kernel) (by decide +kernel) (Nat.le_of_ble_eq_true rfl) ?_
  refine go_eq (lv' := [(0, vR v), (1, vI ((t : Nat) : Int)), (2, vI ((k : Nat) : Int))]) rfl rfl rfl rfl rfl ?_
  have hT6 := hT.2.1
  have hl8 := (hT.2.2.1 t ht).2
  refine go_iload_n 1 dX1_kindOfType_0 rfl rfl ?_
  refine go_if_lt (tgt := 26) dX1_kindOfType_1 rfl (fun c1 => ?_) (fun c1 => ?_)
  · exact absurd c1 (by omega)
  · refine go_iload_n 1 dX1_kindOfType_4 rfl rfl ?_
    refine go_aload_n 0 dX1_kindOfType_5 rfl rfl ?_
    refine gx_getI (v := ((T : Nat) : Int)) dX1_kindOfType_6 lk1_25.get hv.k0 hv.l0 rfl hT.1 ?_
    refine go_icmp_ge (tgt := 26) dX1_kindOfType_9 rfl (fun c2 => ?_) (fun c2 => ?_)
    · exact absurd c2 (by omega)
    · refine go_iload_n 2 dX1_kindOfType_12 rfl rfl ?_
      refine go_if_lt (tgt := 26) dX1_kindOfType_13 rfl (fun c3 => ?_) (fun c3 => ?_)
      · exact absurd c3 (by omega)
      · refine go_iload_n 2 dX1_kindOfType_16 rfl rfl ?_
        refine go_aload_n 0 dX1_kindOfType_17 rfl rfl ?_
        refine go_getR (r := (v + 5)) dX1_kindOfType_18 lk1_41.get hv.k0 hv.l0 rfl (hv.p9 _) ?_
        refine go_iload_n 1 dX1_kindOfType_21 rfl rfl ?_
        refine gx_iaload (v := ((lt t : Nat) : Int)) t dX1_kindOfType_22 hv.k5 (hv.l (by omega)) hv.n5 rfl (by omega) ((hT.2.2.1 t (by omega)).1) ?_
        refine go_icmp_lt (tgt := 28) dX1_kindOfType_23 rfl (fun c4 => ?_) (fun c4 => ?_)
        · refine go_aload_n 0 dX1_kindOfType_28 rfl rfl ?_
          refine go_getR (r := (v + 6)) dX1_kindOfType_29 lk1_46.get hv.k0 hv.l0 rfl (hv.p10 _) ?_
          refine go_iload_n 1 dX1_kindOfType_32 rfl rfl ?_
          refine gx_aaload (c0 := 4) (r := (v + 7 + t)) t dX1_kindOfType_33 hv.k6 (by decide) (by decide) (hv.l (by omega)) hv.n6 rfl (by omega) (hv.pt _ (by omega)) ?_
          refine go_iload_n 2 dX1_kindOfType_34 rfl rfl ?_
          refine gx_iaload (v := (M (v + 7 + t) k)) k dX1_kindOfType_35 (hv.kt (by omega)) (hv.lt (by omega)) (hv.nt (by omega)) rfl (by omega) rfl ?_
          refine go_iret dX1_kindOfType_36 rfl rfl ⟨_, rfl, ?_⟩
          rw [kindV] at hQ
          first | (rw [if_pos (by omega)] at hQ; exact hQ) | (rw [if_neg (by omega)] at hQ; exact hQ)
        · refine go_iconst dX1_kindOfType_26 (by decide) ?_
          refine go_iret dX1_kindOfType_27 rfl rfl ⟨_, rfl, ?_⟩
          rw [kindV] at hQ
          first | (rw [if_pos (by omega)] at hQ; exact hQ) | (rw [if_neg (by omega)] at hQ; exact hQ)

set_option maxHeartbeats 4000000 in
set_option maxRecDepth 100000 in
theorem lp_X1_beginsAs {a v w T t L : Nat} {lt : Nat → Nat} {M : inm} {Q : Int → Nat → rfm → inm → Prop} (ha : On a) (hv : Cs v) (hT : Tys M v T lt) (hL : Lay M a L) (ht : t < T) (h1 : (begV lt (fun t k => M (v + 7 + t) k) (fun j => M (a + 1) j) L t) = true → Q 1 303 (PP w) M) (h0 : (begV lt (fun t k => M (v + 7 + t) k) (fun j => M (a + 1) j) L t) = false → Q 0 303 (PP w) M) : ∀ (d k : Nat), (min (lt t) L) < k + d → k ≤ (min (lt t) L) → allTo (fun k => decide (M (v + 7 + t) k = M (a + 1) k)) k = true → Go S0 yX1_beginsAs cX1_beginsAs 5 1 0 0 (some .boolean) 17 [(4, vI ((k : Nat) : Int)), (3, vI ((min (lt t) L : Nat) : Int)), (0, vR v), (1, vI ((t : Nat) : Int)), (2, vR a)] [] 303 (PP w) M (fun v n P M => ∃ z, v = some (vI z) ∧ Q z n P M) := by
  have hT6 := hT.2.1
  have hL12 := hL.2.1
  have hl8 := (hT.2.2.1 t ht).2
  have hav := ha.apartC hv
  intro d
  induction d with
  | zero => intro k g1 g2 hk; exfalso; omega
  | succ d ih =>
    intro k g1 g2 hk
    refine go_iload 0 dX1_beginsAs_17 rfl ?_
    refine go_iload_n 1 dX1_beginsAs_19 rfl rfl ?_
    refine go_icmp_ge (tgt := 50) dX1_beginsAs_20 rfl (fun c1 => ?_) (fun c1 => ?_)
    · refine go_iconst dX1_beginsAs_50 (by decide) ?_
      refine go_iret dX1_beginsAs_51 rfl rfl ⟨_, rfl, ?_⟩
      exact h1 (by rw [begV, ← show k = min (lt t) L by omega]; exact hk)
    · refine go_aload_n 2 dX1_beginsAs_23 rfl rfl ?_
      refine go_getR (r := (v + 6)) dX1_beginsAs_24 lk1_46.get hv.k0 hv.l0 rfl (hv.p10 _) ?_
      refine go_iload_n 3 dX1_beginsAs_27 rfl rfl ?_
      refine gx_aaload (c0 := 4) (r := (v + 7 + t)) t dX1_beginsAs_28 hv.k6 (by decide) (by decide) (hv.l (by omega)) hv.n6 rfl (by omega) (hv.pt _ (by omega)) ?_
      refine go_iload 0 dX1_beginsAs_29 rfl ?_
      refine gx_iaload (v := (M (v + 7 + t) k)) k dX1_beginsAs_31 (hv.kt (by omega)) (hv.lt (by omega)) (hv.nt (by omega)) rfl (by omega) rfl ?_
      refine go_aload_n 4 dX1_beginsAs_32 rfl rfl ?_
      refine go_getR (r := (a + 1)) dX1_beginsAs_33 lk1_68 ha.k0 ha.l0 rfl (ha.p1 _) ?_
      refine go_iload 0 dX1_beginsAs_36 rfl ?_
      refine gx_iaload (v := (M (a + 1) k)) k dX1_beginsAs_38 ha.k1 ha.l1 ha.n1 rfl (by omega) rfl ?_
      refine go_icmp_eq (tgt := 44) dX1_beginsAs_39 rfl (fun c2 => ?_) (fun c2 => ?_)
      · refine gx_iinc (v := ((k + 1 : Nat) : Int)) (lv' := [(4, vI ((k + 1 : Nat) : Int)), (3, vI ((min (lt t) L : Nat) : Int)), (0, vR v), (1, vI ((t : Nat) : Int)), (2, vR a)]) 0 dX1_beginsAs_44 rfl (by omega) ⟨by omega, by omega⟩ (by decide) rfl ?_
        refine go_goto (tgt := 17) dX1_beginsAs_47 rfl ?_
        exact ih (k + 1) (by omega) (by omega) (allTo_s hk (decide_eq_true (by omega)))
      · refine go_iconst dX1_beginsAs_42 (by decide) ?_
        refine go_iret dX1_beginsAs_43 rfl rfl ⟨_, rfl, ?_⟩
        exact h0 (by rw [begV]; exact allTo_no (k := k) (decide_eq_false (by omega)) _ (by omega))

set_option maxHeartbeats 4000000 in
set_option maxRecDepth 100000 in
theorem ok_X1_beginsAs {a v w T t L : Nat} {lt : Nat → Nat} {M : inm} {Q : Int → Nat → rfm → inm → Prop} (ha : On a) (hv : Cs v) (hT : Tys M v T lt) (hL : Lay M a L) (ht : t < T) (h1 : (begV lt (fun t k => M (v + 7 + t) k) (fun j => M (a + 1) j) L t) = true → Q 1 303 (PP w) M) (h0 : (begV lt (fun t k => M (v + 7 + t) k) (fun j => M (a + 1) j) L t) = false → Q 0 303 (PP w) M) : OkI yX1_beginsAs cX1_beginsAs 5 1 0 0 (some .boolean) [vR v, vI ((t : Nat) : Int), vR a] 303 (PP w) M Q := by
  refine OkI.of (by decide +kernel) (by decide +kernel) (Nat.le_of_ble_eq_true rfl) ?_
  refine go_eq (lv' := [(0, vR v), (1, vI ((t : Nat) : Int)), (2, vR a)]) rfl rfl rfl rfl rfl ?_
  have hT6 := hT.2.1
  have hL12 := hL.2.1
  have hl8 := (hT.2.2.1 t ht).2
  have hav := ha.apartC hv
  refine go_aload_n 0 dX1_beginsAs_0 rfl rfl ?_
  refine go_getR (r := (v + 5)) dX1_beginsAs_1 lk1_41.get hv.k0 hv.l0 rfl (hv.p9 _) ?_
  refine go_iload_n 1 dX1_beginsAs_4 rfl rfl ?_
  refine gx_iaload (v := ((lt t : Nat) : Int)) t dX1_beginsAs_5 hv.k5 (hv.l (by omega)) hv.n5 rfl (by omega) ((hT.2.2.1 t (by omega)).1) ?_
  refine go_aload_n 2 dX1_beginsAs_6 rfl rfl ?_
  refine gx_getI (v := ((L : Nat) : Int)) dX1_beginsAs_7 lk1_59.get ha.k0 ha.l0 rfl hL.1 ?_
  refine gx_min (v := (min ((lt t : Nat) : Int) ((L : Nat) : Int))) dX1_beginsAs_10 mm1_62 (by decide) (Nat.le_of_ble_eq_true rfl) rfl ?_
  refine go_istore_n (lv' := [(3, vI (min ((lt t : Nat) : Int) ((L : Nat) : Int))), (0, vR v), (1, vI ((t : Nat) : Int)), (2, vR a)]) dX1_beginsAs_13 rfl (by decide) rfl ?_
  refine go_iconst dX1_beginsAs_14 (by decide) ?_
  refine go_istore (lv' := [(4, vI 0), (3, vI (min ((lt t : Nat) : Int) ((L : Nat) : Int))), (0, vR v), (1, vI ((t : Nat) : Int)), (2, vR a)]) dX1_beginsAs_15 (by decide) rfl ?_
  refine go_lv [0, 1, 2, 3, 4] rfl ?_
  refine go_eq (lv' := [(4, vI ((0 : Nat) : Int)), (3, vI ((min (lt t) L : Nat) : Int)), (0, vR v), (1, vI ((t : Nat) : Int)), (2, vR a)]) (by rw [show min ((lt t : Nat) : Int) ((L : Nat) : Int) = ((min (lt t) L : Nat) : Int) by omega]; rfl) rfl rfl rfl rfl ?_
  exact lp_X1_beginsAs ha hv hT hL ht h1 h0 (min (lt t) L + 1) 0 (by omega) (by omega) rfl

set_option maxHeartbeats 4000000 in
set_option maxRecDepth 100000 in
theorem lp_X1_canBe {a v w T L : Nat} {lt : Nat → Nat} {M : inm} {Q : Int → Nat → rfm → inm → Prop} (ha : On a) (hv : Cs v) (hT : Tys M v T lt) (hL : Lay M a L) (hQ : Q ((orTo (setG (begV lt (fun t k => M (v + 7 + t) k) (fun j => M (a + 1) j) L)) T : Nat) : Int) 303 (PP w) M) : ∀ (d k : Nat), T < k + d → k ≤ T → Go S0 yX1_canBe cX1_canBe 4 2 0 0 (some .int) 4 [(3, vI ((k : Nat) : Int)), (2, vI ((orTo (setG (begV lt (fun t k => M (v + 7 + t) k) (fun j => M (a + 1) j) L)) k : Nat) : Int)), (0, vR v), (1, vR a)] [] 303 (PP w) M (fun v n P M => ∃ z, v = some (vI z) ∧ Q z n P M) := by
  have hT6 := hT.2.1
  have hL12 := hL.2.1
  intro d
  induction d with
  | zero => intro k h1 h2; exfalso; omega
  | succ d ih =>
    intro k h1 h2
    refine go_iload_n 0 dX1_canBe_4 rfl rfl ?_
    refine go_aload_n 2 dX1_canBe_5 rfl rfl ?_
    refine gx_getI (v := ((T : Nat) : Int)) dX1_canBe_6 lk1_25.get hv.k0 hv.l0 rfl hT.1 ?_
    refine go_icmp_ge (tgt := 33) dX1_canBe_9 rfl (fun c1 => ?_) (fun c1 => ?_)
    · refine go_iload_n 1 dX1_canBe_33 rfl rfl ?_
      refine go_iret dX1_canBe_34 rfl rfl ⟨_, rfl, ?_⟩
      rw [show k = T by omega]
      exact hQ
    · refine go_aload_n 2 dX1_canBe_12 rfl rfl ?_
      refine go_iload_n 0 dX1_canBe_13 rfl rfl ?_
      refine go_aload_n 3 dX1_canBe_14 rfl rfl ?_
      refine go_callVI (av := [vI ((k : Nat) : Int), vR a]) (st := []) (a := v) (mc2 := 0) (ms2 := 0) dX1_canBe_15 cw1_55 (by decide) rfl rfl (Nat.le_of_ble_eq_true rfl) rfl rfl hv.k0 ⟨_, _, rfl⟩ (by decide) hv.l0 (ok_X1_beginsAs (t := k) ha hv hT hL (by omega) (fun b2 => ?_) (fun b3 => ?_))
      · skip
        refine go_if_eq (tgt := 27) dX1_canBe_18 rfl (fun c4 => ?_) (fun c4 => ?_)
        · exact absurd c4 (by omega)
        · refine go_iload_n 1 dX1_canBe_21 rfl rfl ?_
          refine go_iconst dX1_canBe_22 (by decide) ?_
          refine go_iload_n 0 dX1_canBe_23 rfl rfl ?_
          refine gx_shl k dX1_canBe_24 (by omega) (by omega) rfl ?_
          refine gx_ior (a := orTo (setG (begV lt (fun t k => M (v + 7 + t) k) (fun j => M (a + 1) j) L)) k) (b := (2 ^ k)) dX1_canBe_25 (by omega) (by omega) ?_
          refine go_istore_n (lv' := [(2, vI (((orTo (setG (begV lt (fun t k => M (v + 7 + t) k) (fun j => M (a + 1) j) L)) k) ||| (2 ^ k) : Nat) : Int)), (3, vI ((k : Nat) : Int)), (0, vR v), (1, vR a)]) dX1_canBe_26 rfl (by decide) rfl ?_
          refine gx_iinc (v := ((k + 1 : Nat) : Int)) (lv' := [(3, vI ((k + 1 : Nat) : Int)), (2, vI (((orTo (setG (begV lt (fun t k => M (v + 7 + t) k) (fun j => M (a + 1) j) L)) k) ||| (2 ^ k) : Nat) : Int)), (0, vR v), (1, vR a)]) 1 dX1_canBe_27 rfl (by omega) ⟨by omega, by omega⟩ (by decide) rfl ?_
          refine go_goto (tgt := 4) dX1_canBe_30 rfl ?_
          have e5 : (((orTo (setG (begV lt (fun t k => M (v + 7 + t) k) (fun j => M (a + 1) j) L)) k) ||| (2 ^ k) : Nat) : Int) = ((orTo (setG (begV lt (fun t k => M (v + 7 + t) k) (fun j => M (a + 1) j) L)) (k + 1) : Nat) : Int) := by (rw [orTo_s, setG]; simp_all)
          rw [e5]
          exact ih (k + 1) (by omega) (by omega)
      · skip
        refine go_if_eq (tgt := 27) dX1_canBe_18 rfl (fun c6 => ?_) (fun c6 => ?_)
        · refine gx_iinc (v := ((k + 1 : Nat) : Int)) (lv' := [(3, vI ((k + 1 : Nat) : Int)), (2, vI ((orTo (setG (begV lt (fun t k => M (v + 7 + t) k) (fun j => M (a + 1) j) L)) k : Nat) : Int)), (0, vR v), (1, vR a)]) 0 dX1_canBe_27 rfl (by omega) ⟨by omega, by omega⟩ (by decide) rfl ?_
          refine go_goto (tgt := 4) dX1_canBe_30 rfl ?_
          have e7 : ((orTo (setG (begV lt (fun t k => M (v + 7 + t) k) (fun j => M (a + 1) j) L)) k : Nat) : Int) = ((orTo (setG (begV lt (fun t k => M (v + 7 + t) k) (fun j => M (a + 1) j) L)) (k + 1) : Nat) : Int) := by (rw [orTo_s, setG]; simp_all)
          rw [e7]
          exact ih (k + 1) (by omega) (by omega)
        · exact absurd rfl c6

set_option maxHeartbeats 4000000 in
set_option maxRecDepth 100000 in
theorem ok_X1_canBe {a v w T L : Nat} {lt : Nat → Nat} {M : inm} {Q : Int → Nat → rfm → inm → Prop} (ha : On a) (hv : Cs v) (hT : Tys M v T lt) (hL : Lay M a L) (hQ : Q ((orTo (setG (begV lt (fun t k => M (v + 7 + t) k) (fun j => M (a + 1) j) L)) T : Nat) : Int) 303 (PP w) M) : OkI yX1_canBe cX1_canBe 4 2 0 0 (some .int) [vR v, vR a] 303 (PP w) M Q := by
  refine OkI.of (by decide +kernel) (by decide +kernel) (Nat.le_of_ble_eq_true rfl) ?_
  refine go_eq (lv' := [(0, vR v), (1, vR a)]) rfl rfl rfl rfl rfl ?_
  refine go_iconst dX1_canBe_0 (by decide) ?_
  refine go_istore_n (lv' := [(2, vI 0), (0, vR v), (1, vR a)]) dX1_canBe_1 rfl (by decide) rfl ?_
  refine go_iconst dX1_canBe_2 (by decide) ?_
  refine go_istore_n (lv' := [(3, vI 0), (2, vI 0), (0, vR v), (1, vR a)]) dX1_canBe_3 rfl (by decide) rfl ?_
  exact lp_X1_canBe ha hv hT hL hQ (T + 1) 0 (by omega) (by omega)

set_option maxHeartbeats 4000000 in
set_option maxRecDepth 100000 in
theorem lp_X1_countNext {a v w T L : Nat} {lt : Nat → Nat} {M : inm} {u : Int} {Q : Int → Nat → rfm → inm → Prop} (ha : On a) (hv : Cs v) (hT : Tys M v T lt) (hL : Lay M a L) (hQ : Q ((cntTo (nextP lt (fun t k => M (v + 7 + t) k) (fun j => M (a + 1) j) L u) T : Nat) : Int) 303 (PP w) M) : ∀ (d k : Nat), T < k + d → k ≤ T → Go S0 yX1_countNext cX1_countNext 5 2 0 0 (some .int) 5 [(4, vI ((k : Nat) : Int)), (3, vI ((cntTo (nextP lt (fun t k => M (v + 7 + t) k) (fun j => M (a + 1) j) L u) k : Nat) : Int)), (0, vR v), (1, vR a), (2, vI u)] [] 303 (PP w) M (fun v n P M => ∃ z, v = some (vI z) ∧ Q z n P M) := by
  have hT6 := hT.2.1
  have hL12 := hL.2.1
  intro d
  induction d with
  | zero => intro k h1 h2; exfalso; omega
  | succ d ih =>
    intro k h1 h2
    have hc := cntTo_le (p := (nextP lt (fun t k => M (v + 7 + t) k) (fun j => M (a + 1) j) L u)) k
    refine go_iload 0 dX1_countNext_5 rfl ?_
    refine go_aload_n 2 dX1_countNext_7 rfl rfl ?_
    refine gx_getI (v := ((T : Nat) : Int)) dX1_countNext_8 lk1_25.get hv.k0 hv.l0 rfl hT.1 ?_
    refine go_icmp_ge (tgt := 47) dX1_countNext_11 rfl (fun c1 => ?_) (fun c1 => ?_)
    · refine go_iload_n 1 dX1_countNext_47 rfl rfl ?_
      refine go_iret dX1_countNext_48 rfl rfl ⟨_, rfl, ?_⟩
      rw [show k = T by omega]
      exact hQ
    · refine go_aload_n 2 dX1_countNext_14 rfl rfl ?_
      refine go_iload 0 dX1_countNext_15 rfl ?_
      refine go_aload_n 3 dX1_countNext_17 rfl rfl ?_
      refine gx_getI (v := ((L : Nat) : Int)) dX1_countNext_18 lk1_59.get ha.k0 ha.l0 rfl hL.1 ?_
      refine go_callVI (av := [vI ((k : Nat) : Int), vI ((L : Nat) : Int)]) (st := []) (a := v) (mc2 := 0) (ms2 := 0) dX1_countNext_21 cw1_69 (by decide) rfl rfl (Nat.le_of_ble_eq_true rfl) rfl rfl hv.k0 ⟨_, _, rfl⟩ (by decide) hv.l0 (ok_X1_kindOfType (t := k) (k := L) hv hT (by omega) ?_)
      refine go_iload_n 4 dX1_countNext_24 rfl rfl ?_
      refine go_icmp_ne (tgt := 41) dX1_countNext_25 rfl (fun c2 => ?_) (fun c2 => ?_)
      · refine gx_iinc (v := ((k + 1 : Nat) : Int)) (lv' := [(4, vI ((k + 1 : Nat) : Int)), (3, vI ((cntTo (nextP lt (fun t k => M (v + 7 + t) k) (fun j => M (a + 1) j) L u) k : Nat) : Int)), (0, vR v), (1, vR a), (2, vI u)]) 0 dX1_countNext_41 rfl (by omega) ⟨by omega, by omega⟩ (by decide) rfl ?_
        refine go_goto (tgt := 5) dX1_countNext_44 rfl ?_
        have e3 : ((cntTo (nextP lt (fun t k => M (v + 7 + t) k) (fun j => M (a + 1) j) L u) k : Nat) : Int) = ((cntTo (nextP lt (fun t k => M (v + 7 + t) k) (fun j => M (a + 1) j) L u) (k + 1) : Nat) : Int) := by (rw [cntTo, nextP]; simp_all)
        rw [e3]
        exact ih (k + 1) (by omega) (by omega)
      · refine go_aload_n 2 dX1_countNext_28 rfl rfl ?_
        refine go_iload 0 dX1_countNext_29 rfl ?_
        refine go_aload_n 3 dX1_countNext_31 rfl rfl ?_
        refine go_callVI (av := [vI ((k : Nat) : Int), vR a]) (st := []) (a := v) (mc2 := 0) (ms2 := 0) dX1_countNext_32 cw1_55 (by decide) rfl rfl (Nat.le_of_ble_eq_true rfl) rfl rfl hv.k0 ⟨_, _, rfl⟩ (by decide) hv.l0 (ok_X1_beginsAs (t := k) ha hv hT hL (by omega) (fun b4 => ?_) (fun b5 => ?_))
        · skip
          refine go_if_eq (tgt := 41) dX1_countNext_35 rfl (fun c6 => ?_) (fun c6 => ?_)
          · exact absurd c6 (by omega)
          · refine gx_iinc (v := ((cntTo (nextP lt (fun t k => M (v + 7 + t) k) (fun j => M (a + 1) j) L u) k + 1 : Nat) : Int)) (lv' := [(3, vI ((cntTo (nextP lt (fun t k => M (v + 7 + t) k) (fun j => M (a + 1) j) L u) k + 1 : Nat) : Int)), (4, vI ((k : Nat) : Int)), (0, vR v), (1, vR a), (2, vI u)]) 1 dX1_countNext_38 rfl (by omega) ⟨by omega, by omega⟩ (by decide) rfl ?_
            refine gx_iinc (v := ((k + 1 : Nat) : Int)) (lv' := [(4, vI ((k + 1 : Nat) : Int)), (3, vI ((cntTo (nextP lt (fun t k => M (v + 7 + t) k) (fun j => M (a + 1) j) L u) k + 1 : Nat) : Int)), (0, vR v), (1, vR a), (2, vI u)]) 1 dX1_countNext_41 rfl (by omega) ⟨by omega, by omega⟩ (by decide) rfl ?_
            refine go_goto (tgt := 5) dX1_countNext_44 rfl ?_
            have e7 : ((cntTo (nextP lt (fun t k => M (v + 7 + t) k) (fun j => M (a + 1) j) L u) k + 1 : Nat) : Int) = ((cntTo (nextP lt (fun t k => M (v + 7 + t) k) (fun j => M (a + 1) j) L u) (k + 1) : Nat) : Int) := by (rw [cntTo, nextP]; simp_all)
            rw [e7]
            exact ih (k + 1) (by omega) (by omega)
        · skip
          refine go_if_eq (tgt := 41) dX1_countNext_35 rfl (fun c8 => ?_) (fun c8 => ?_)
          · refine gx_iinc (v := ((k + 1 : Nat) : Int)) (lv' := [(4, vI ((k + 1 : Nat) : Int)), (3, vI ((cntTo (nextP lt (fun t k => M (v + 7 + t) k) (fun j => M (a + 1) j) L u) k : Nat) : Int)), (0, vR v), (1, vR a), (2, vI u)]) 0 dX1_countNext_41 rfl (by omega) ⟨by omega, by omega⟩ (by decide) rfl ?_
            refine go_goto (tgt := 5) dX1_countNext_44 rfl ?_
            have e9 : ((cntTo (nextP lt (fun t k => M (v + 7 + t) k) (fun j => M (a + 1) j) L u) k : Nat) : Int) = ((cntTo (nextP lt (fun t k => M (v + 7 + t) k) (fun j => M (a + 1) j) L u) (k + 1) : Nat) : Int) := by (rw [cntTo, nextP]; simp_all)
            rw [e9]
            exact ih (k + 1) (by omega) (by omega)
          · exact absurd rfl c8

set_option maxHeartbeats 4000000 in
set_option maxRecDepth 100000 in
theorem ok_X1_countNext {a v w T L : Nat} {lt : Nat → Nat} {M : inm} {u : Int} {Q : Int → Nat → rfm → inm → Prop} (ha : On a) (hv : Cs v) (hT : Tys M v T lt) (hL : Lay M a L) (hQ : Q ((cntTo (nextP lt (fun t k => M (v + 7 + t) k) (fun j => M (a + 1) j) L u) T : Nat) : Int) 303 (PP w) M) : OkI yX1_countNext cX1_countNext 5 2 0 0 (some .int) [vR v, vR a, vI u] 303 (PP w) M Q := by
  refine OkI.of (by decide +kernel) (by decide +kernel) (Nat.le_of_ble_eq_true rfl) ?_
  refine go_eq (lv' := [(0, vR v), (1, vR a), (2, vI u)]) rfl rfl rfl rfl rfl ?_
  refine go_iconst dX1_countNext_0 (by decide) ?_
  refine go_istore_n (lv' := [(3, vI 0), (0, vR v), (1, vR a), (2, vI u)]) dX1_countNext_1 rfl (by decide) rfl ?_
  refine go_iconst dX1_countNext_2 (by decide) ?_
  refine go_istore (lv' := [(4, vI 0), (3, vI 0), (0, vR v), (1, vR a), (2, vI u)]) dX1_countNext_3 (by decide) rfl ?_
  exact lp_X1_countNext ha hv hT hL hQ (T + 1) 0 (by omega) (by omega)

set_option maxHeartbeats 4000000 in
set_option maxRecDepth 100000 in
theorem lp_X1_sureKind {a v w T L : Nat} {lt : Nat → Nat} {M : inm} {Q : Int → Nat → rfm → inm → Prop} (ha : On a) (hv : Cs v) (hT : Tys M v T lt) (hL : Lay M a L) : ∀ (d k : Nat), 5 < k + d → k ≤ 5 → ∀ z : Int, Q (sureC (fun u => decide (0 < cntTo (nextP lt (fun t k => M (v + 7 + t) k) (fun j => M (a + 1) j) L (u : Int)) T)) (5 - k) k z) 303 (PP w) M → Go S0 yX1_sureKind cX1_sureKind 4 3 0 0 (some .int) 4 [(3, vI ((k : Nat) : Int)), (2, vI z), (0, vR v), (1, vR a)] [] 303 (PP w) M (fun v n P M => ∃ z, v = some (vI z) ∧ Q z n P M) := by
  intro d
  induction d with
  | zero => intro k h1 h2; exfalso; omega
  | succ d ih =>
    intro k h1 h2 z hQ
    refine go_iload_n 0 dX1_sureKind_4 rfl rfl ?_
    refine go_iconst dX1_sureKind_5 (by decide) ?_
    refine go_icmp_ge (tgt := 33) dX1_sureKind_6 rfl (fun c1 => ?_) (fun c1 => ?_)
    · refine go_iload_n 1 dX1_sureKind_33 rfl rfl ?_
      refine go_iret dX1_sureKind_34 rfl rfl ⟨_, rfl, ?_⟩
      rw [show 5 - k = 0 by omega, sureC] at hQ
      exact hQ
    · refine go_aload_n 2 dX1_sureKind_9 rfl rfl ?_
      refine go_aload_n 3 dX1_sureKind_10 rfl rfl ?_
      refine go_iload_n 0 dX1_sureKind_11 rfl rfl ?_
      refine go_callVI (av := [vR a, vI ((k : Nat) : Int)]) (st := []) (a := v) (mc2 := 0) (ms2 := 0) dX1_sureKind_12 cw1_72 (by decide) rfl rfl (Nat.le_of_ble_eq_true rfl) rfl rfl hv.k0 ⟨_, _, rfl⟩ (by decide) hv.l0 (ok_X1_countNext ha hv hT hL ?_)
      refine go_if_le (tgt := 27) dX1_sureKind_15 rfl (fun c2 => ?_) (fun c2 => ?_)
      · refine gx_iinc (v := ((k + 1 : Nat) : Int)) (lv' := [(3, vI ((k + 1 : Nat) : Int)), (2, vI z), (0, vR v), (1, vR a)]) 0 dX1_sureKind_27 rfl (by omega) ⟨by omega, by omega⟩ (by decide) rfl ?_
        refine go_goto (tgt := 4) dX1_sureKind_30 rfl ?_
        first | (rw [show 5 - k = (5 - (k + 1)) + 1 by omega, sureC, if_pos (decide_eq_true (by omega)), if_pos (by omega)] at hQ; exact ih (k + 1) (by omega) (by omega) _ hQ) | (rw [show 5 - k = (5 - (k + 1)) + 1 by omega, sureC, if_neg (by rw [decide_eq_true_eq]; omega)] at hQ; exact ih (k + 1) (by omega) (by omega) _ hQ)
      · refine go_iload_n 1 dX1_sureKind_18 rfl rfl ?_
        refine go_iconst dX1_sureKind_19 (by decide) ?_
        refine go_icmp_eq (tgt := 25) dX1_sureKind_20 rfl (fun c3 => ?_) (fun c3 => ?_)
        · refine go_iload_n 0 dX1_sureKind_25 rfl rfl ?_
          refine go_istore_n (lv' := [(2, vI ((k : Nat) : Int)), (3, vI ((k : Nat) : Int)), (0, vR v), (1, vR a)]) dX1_sureKind_26 rfl (by decide) rfl ?_
          refine gx_iinc (v := ((k + 1 : Nat) : Int)) (lv' := [(3, vI ((k + 1 : Nat) : Int)), (2, vI ((k : Nat) : Int)), (0, vR v), (1, vR a)]) 1 dX1_sureKind_27 rfl (by omega) ⟨by omega, by omega⟩ (by decide) rfl ?_
          refine go_goto (tgt := 4) dX1_sureKind_30 rfl ?_
          first | (rw [show 5 - k = (5 - (k + 1)) + 1 by omega, sureC, if_pos (decide_eq_true (by omega)), if_pos (by omega)] at hQ; exact ih (k + 1) (by omega) (by omega) _ hQ) | (rw [show 5 - k = (5 - (k + 1)) + 1 by omega, sureC, if_neg (by rw [decide_eq_true_eq]; omega)] at hQ; exact ih (k + 1) (by omega) (by omega) _ hQ)
        · refine go_iconst dX1_sureKind_23 (by decide) ?_
          refine go_iret dX1_sureKind_24 rfl rfl ⟨_, rfl, ?_⟩
          rw [show 5 - k = (4 - k) + 1 by omega, sureC, if_pos (decide_eq_true (by omega)), if_neg (by omega)] at hQ
          exact hQ

set_option maxHeartbeats 4000000 in
set_option maxRecDepth 100000 in
theorem ok_X1_sureKind {a v w T L : Nat} {lt : Nat → Nat} {M : inm} {Q : Int → Nat → rfm → inm → Prop} (ha : On a) (hv : Cs v) (hT : Tys M v T lt) (hL : Lay M a L) (hQ : Q (sureC (fun u => decide (0 < cntTo (nextP lt (fun t k => M (v + 7 + t) k) (fun j => M (a + 1) j) L (u : Int)) T)) 5 0 (-1)) 303 (PP w) M) : OkI yX1_sureKind cX1_sureKind 4 3 0 0 (some .int) [vR v, vR a] 303 (PP w) M Q := by
  refine OkI.of (by decide +kernel) (by decide +kernel) (Nat.le_of_ble_eq_true rfl) ?_
  refine go_eq (lv' := [(0, vR v), (1, vR a)]) rfl rfl rfl rfl rfl ?_
  refine go_iconst dX1_sureKind_0 (by decide) ?_
  refine go_istore_n (lv' := [(2, vI (-1)), (0, vR v), (1, vR a)]) dX1_sureKind_1 rfl (by decide) rfl ?_
  refine go_iconst dX1_sureKind_2 (by decide) ?_
  refine go_istore_n (lv' := [(3, vI 0), (2, vI (-1)), (0, vR v), (1, vR a)]) dX1_sureKind_3 rfl (by decide) rfl ?_
  exact lp_X1_sureKind ha hv hT hL 6 0 (by omega) (by omega) (-1) hQ

set_option maxHeartbeats 4000000 in
set_option maxRecDepth 100000 in
theorem lp_X1_lawOfTypes_14 {v w T : Nat} {lt : Nat → Nat} {M : inm} {t : Nat} {Q : Int → Nat → rfm → inm → Prop} (hv : Cs v) (hT : Tys M v T lt) (ht : t < T) (kk : Go S0 yX1_lawOfTypes cX1_lawOfTypes 4 1 0 0 (some .int) 54 [(1, vI ((orTo (fun t => orTo (lawG (fun k => M (v + 7 + t) k)) (max (lt t) 1)) t ||| orTo (lawG (fun k => M (v + 7 + t) k)) (max (lt t) 1) : Nat) : Int)), (2, vI ((t : Nat) : Int)), (0, vR v)] [] 303 (PP w) M (fun v n P M => ∃ z, v = some (vI z) ∧ Q z n P M)) : ∀ (d k : Nat), (max (lt t) 1) < k + d → 1 ≤ k → k ≤ (max (lt t) 1) → Go S0 yX1_lawOfTypes cX1_lawOfTypes 4 1 0 0 (some .int) 14 [(3, vI ((k : Nat) : Int)), (1, vI ((orTo (fun t => orTo (lawG (fun k => M (v + 7 + t) k)) (max (lt t) 1)) t ||| orTo (lawG (fun k => M (v + 7 + t) k)) k : Nat) : Int)), (2, vI ((t : Nat) : Int)), (0, vR v)] [] 303 (PP w) M (fun v n P M => ∃ z, v = some (vI z) ∧ Q z n P M) := by
  have hT6 := hT.2.1
  have hl8 := (hT.2.2.1 t ht).2
  intro d
  induction d with
  | zero => intro k h1 h2 h3; exfalso; omega
  | succ d ih =>
    intro k h1 h2 h3
    refine go_iload_n 0 dX1_lawOfTypes_14 rfl rfl ?_
    refine go_aload_n 3 dX1_lawOfTypes_15 rfl rfl ?_
    refine go_getR (r := (v + 5)) dX1_lawOfTypes_16 lk1_41.get hv.k0 hv.l0 rfl (hv.p9 _) ?_
    refine go_iload_n 2 dX1_lawOfTypes_19 rfl rfl ?_
    refine gx_iaload (v := ((lt t : Nat) : Int)) t dX1_lawOfTypes_20 hv.k5 (hv.l (by omega)) hv.n5 rfl (by omega) ((hT.2.2.1 t (by omega)).1) ?_
    refine go_icmp_ge (tgt := 54) dX1_lawOfTypes_21 rfl (fun c1 => ?_) (fun c1 => ?_)
    · refine go_lv [1, 2, 3] rfl ?_
      rw [show k = max (lt t) 1 by omega]
      exact kk
    · refine go_iload_n 1 dX1_lawOfTypes_24 rfl rfl ?_
      refine go_aload_n 3 dX1_lawOfTypes_25 rfl rfl ?_
      refine go_getR (r := (v + 6)) dX1_lawOfTypes_26 lk1_46.get hv.k0 hv.l0 rfl (hv.p10 _) ?_
      refine go_iload_n 2 dX1_lawOfTypes_29 rfl rfl ?_
      refine gx_aaload (c0 := 4) (r := (v + 7 + t)) t dX1_lawOfTypes_30 hv.k6 (by decide) (by decide) (hv.l (by omega)) hv.n6 rfl (by omega) (hv.pt _ (by omega)) ?_
      refine go_iload_n 0 dX1_lawOfTypes_31 rfl rfl ?_
      refine go_iconst dX1_lawOfTypes_32 (by decide) ?_
      refine gx_isub (v := ((k - 1 : Nat) : Int)) dX1_lawOfTypes_33 (by omega) ⟨by omega, by omega⟩ ?_
      have f2 := hT.2.2.2 t (by omega) (k - 1) (by omega)
      refine gx_iaload (v := (M (v + 7 + t) (k - 1))) (k - 1) dX1_lawOfTypes_34 (hv.kt (by omega)) (hv.lt (by omega)) (hv.nt (by omega)) rfl (by omega) rfl ?_
      refine go_aload_n 3 dX1_lawOfTypes_35 rfl rfl ?_
      refine go_getR (r := (v + 6)) dX1_lawOfTypes_36 lk1_46.get hv.k0 hv.l0 rfl (hv.p10 _) ?_
      refine go_iload_n 2 dX1_lawOfTypes_39 rfl rfl ?_
      refine gx_aaload (c0 := 4) (r := (v + 7 + t)) t dX1_lawOfTypes_40 hv.k6 (by decide) (by decide) (hv.l (by omega)) hv.n6 rfl (by omega) (hv.pt _ (by omega)) ?_
      refine go_iload_n 0 dX1_lawOfTypes_41 rfl rfl ?_
      have f3 := hT.2.2.2 t (by omega) k (by omega)
      refine gx_iaload (v := (M (v + 7 + t) k)) k dX1_lawOfTypes_42 (hv.kt (by omega)) (hv.lt (by omega)) (hv.nt (by omega)) rfl (by omega) rfl ?_
      refine go_callSI (av := [vI (M (v + 7 + t) (k - 1)), vI (M (v + 7 + t) k)]) (st := [vI ((orTo (fun t => orTo (lawG (fun k => M (v + 7 + t) k)) (max (lt t) 1)) t ||| orTo (lawG (fun k => M (v + 7 + t) k)) k : Nat) : Int)]) (mc2 := 0) (ms2 := 0) dX1_lawOfTypes_43 cw1_76 (by decide) rfl rfl (Nat.le_of_ble_eq_true rfl) rfl rfl (ok_X9_pairBit (by omega) (by omega) ?_)
      refine gx_ior (a := orTo (fun t => orTo (lawG (fun k => M (v + 7 + t) k)) (max (lt t) 1)) t ||| orTo (lawG (fun k => M (v + 7 + t) k)) k) (b := (2 ^ (5 * (M (v + 7 + t) (k - 1)) + (M (v + 7 + t) k)).toNat)) dX1_lawOfTypes_46 (by omega) (by omega) ?_
      refine go_istore_n (lv' := [(1, vI (((orTo (fun t => orTo (lawG (fun k => M (v + 7 + t) k)) (max (lt t) 1)) t ||| orTo (lawG (fun k => M (v + 7 + t) k)) k) ||| (2 ^ (5 * (M (v + 7 + t) (k - 1)) + (M (v + 7 + t) k)).toNat) : Nat) : Int)), (3, vI ((k : Nat) : Int)), (2, vI ((t : Nat) : Int)), (0, vR v)]) dX1_lawOfTypes_47 rfl (by decide) rfl ?_
      refine gx_iinc (v := ((k + 1 : Nat) : Int)) (lv' := [(3, vI ((k + 1 : Nat) : Int)), (1, vI (((orTo (fun t => orTo (lawG (fun k => M (v + 7 + t) k)) (max (lt t) 1)) t ||| orTo (lawG (fun k => M (v + 7 + t) k)) k) ||| (2 ^ (5 * (M (v + 7 + t) (k - 1)) + (M (v + 7 + t) k)).toNat) : Nat) : Int)), (2, vI ((t : Nat) : Int)), (0, vR v)]) 1 dX1_lawOfTypes_48 rfl (by omega) ⟨by omega, by omega⟩ (by decide) rfl ?_
      refine go_goto (tgt := 14) dX1_lawOfTypes_51 rfl ?_
      have e4 : (((orTo (fun t => orTo (lawG (fun k => M (v + 7 + t) k)) (max (lt t) 1)) t ||| orTo (lawG (fun k => M (v + 7 + t) k)) k) ||| (2 ^ (5 * (M (v + 7 + t) (k - 1)) + (M (v + 7 + t) k)).toNat) : Nat) : Int) = ((orTo (fun t => orTo (lawG (fun k => M (v + 7 + t) k)) (max (lt t) 1)) t ||| orTo (lawG (fun k => M (v + 7 + t) k)) (k + 1) : Nat) : Int) := by (rw [orTo_s, ← Nat.or_assoc, show lawG (fun k => M (v + 7 + t) k) k = 2 ^ (5 * (M (v + 7 + t) (k - 1)) + (M (v + 7 + t) k)).toNat from if_neg (by omega)])
      rw [e4]
      exact ih (k + 1) (by omega) (by omega) (by omega)

set_option maxHeartbeats 4000000 in
set_option maxRecDepth 100000 in
theorem lp_X1_lawOfTypes {v w T : Nat} {lt : Nat → Nat} {M : inm} {Q : Int → Nat → rfm → inm → Prop} (hv : Cs v) (hT : Tys M v T lt) (hQ : Q ((orTo (fun t => orTo (lawG (fun k => M (v + 7 + t) k)) (max (lt t) 1)) T : Nat) : Int) 303 (PP w) M) : ∀ (d k : Nat), T < k + d → k ≤ T → Go S0 yX1_lawOfTypes cX1_lawOfTypes 4 1 0 0 (some .int) 4 [(2, vI ((k : Nat) : Int)), (1, vI ((orTo (fun t => orTo (lawG (fun k => M (v + 7 + t) k)) (max (lt t) 1)) k : Nat) : Int)), (0, vR v)] [] 303 (PP w) M (fun v n P M => ∃ z, v = some (vI z) ∧ Q z n P M) := by
  have hT6 := hT.2.1
  intro d
  induction d with
  | zero => intro k h1 h2; exfalso; omega
  | succ d ih =>
    intro k h1 h2
    refine go_iload_n 0 dX1_lawOfTypes_4 rfl rfl ?_
    refine go_aload_n 2 dX1_lawOfTypes_5 rfl rfl ?_
    refine gx_getI (v := ((T : Nat) : Int)) dX1_lawOfTypes_6 lk1_25.get hv.k0 hv.l0 rfl hT.1 ?_
    refine go_icmp_ge (tgt := 60) dX1_lawOfTypes_9 rfl (fun c1 => ?_) (fun c1 => ?_)
    · refine go_iload_n 1 dX1_lawOfTypes_60 rfl rfl ?_
      refine go_iret dX1_lawOfTypes_61 rfl rfl ⟨_, rfl, ?_⟩
      rw [show k = T by omega]
      exact hQ
    · refine go_iconst dX1_lawOfTypes_12 (by decide) ?_
      refine go_istore_n (lv' := [(3, vI 1), (2, vI ((k : Nat) : Int)), (1, vI ((orTo (fun t => orTo (lawG (fun k => M (v + 7 + t) k)) (max (lt t) 1)) k : Nat) : Int)), (0, vR v)]) dX1_lawOfTypes_13 rfl (by decide) rfl ?_
      refine go_lv [0, 2, 1, 3] rfl ?_
      refine go_eq (lv' := [(3, vI ((1 : Nat) : Int)), (1, vI ((orTo (fun t => orTo (lawG (fun k => M (v + 7 + t) k)) (max (lt t) 1)) k ||| orTo (lawG (fun j => M (v + 7 + k) j)) 1 : Nat) : Int)), (2, vI ((k : Nat) : Int)), (0, vR v)]) (by simp [orTo, lawG]) rfl rfl rfl rfl ?_
      refine lp_X1_lawOfTypes_14 hv hT (t := k) (by omega) ?_ (max (lt k) 1 + 1) 1 (by omega) (by omega) (by omega)
      refine gx_iinc (v := ((k + 1 : Nat) : Int)) (lv' := [(2, vI ((k + 1 : Nat) : Int)), (1, vI ((orTo (fun t => orTo (lawG (fun k => M (v + 7 + t) k)) (max (lt t) 1)) k ||| orTo (lawG (fun j => M (v + 7 + k) j)) (max (lt k) 1) : Nat) : Int)), (0, vR v)]) 1 dX1_lawOfTypes_54 rfl (by omega) ⟨by omega, by omega⟩ (by decide) rfl ?_
      refine go_goto (tgt := 4) dX1_lawOfTypes_57 rfl ?_
      have e2 : ((orTo (fun t => orTo (lawG (fun k => M (v + 7 + t) k)) (max (lt t) 1)) k ||| orTo (lawG (fun j => M (v + 7 + k) j)) (max (lt k) 1) : Nat) : Int) = ((orTo (fun t => orTo (lawG (fun k => M (v + 7 + t) k)) (max (lt t) 1)) (k + 1) : Nat) : Int) := by rfl
      rw [e2]
      exact ih (k + 1) (by omega) (by omega)

set_option maxHeartbeats 4000000 in
set_option maxRecDepth 100000 in
theorem ok_X1_lawOfTypes {v w T : Nat} {lt : Nat → Nat} {M : inm} {Q : Int → Nat → rfm → inm → Prop} (hv : Cs v) (hT : Tys M v T lt) (hQ : Q ((orTo (fun t => orTo (lawG (fun k => M (v + 7 + t) k)) (max (lt t) 1)) T : Nat) : Int) 303 (PP w) M) : OkI yX1_lawOfTypes cX1_lawOfTypes 4 1 0 0 (some .int) [vR v] 303 (PP w) M Q := by
  refine OkI.of (by decide +kernel) (by decide +kernel) (Nat.le_of_ble_eq_true rfl) ?_
  refine go_eq (lv' := [(0, vR v)]) rfl rfl rfl rfl rfl ?_
  refine go_iconst dX1_lawOfTypes_0 (by decide) ?_
  refine go_istore_n (lv' := [(1, vI 0), (0, vR v)]) dX1_lawOfTypes_1 rfl (by decide) rfl ?_
  refine go_iconst dX1_lawOfTypes_2 (by decide) ?_
  refine go_istore_n (lv' := [(2, vI 0), (1, vI 0), (0, vR v)]) dX1_lawOfTypes_3 rfl (by decide) rfl ?_
  exact lp_X1_lawOfTypes hv hT hQ (T + 1) 0 (by omega) (by omega)

