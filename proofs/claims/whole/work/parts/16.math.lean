/-! ===== numbers of the document ===== -/
def worth (c t : Int) : Int := if c = 1 then t / 2 else if c = 2 then 2 * t else if c = 4 then 0 else t
def sting (c t : Int) : Int := if c = 2 then 2 * t else if c = 4 then 0 else t
theorem worth_in {c t : Int} (h : 0 ≤ t) : 0 ≤ worth c t ∧ worth c t ≤ 2 * t := by
  unfold worth
  split
  · omega
  · split
    · omega
    · split <;> omega
theorem sting_in {c t : Int} (h : 0 ≤ t) : 0 ≤ sting c t ∧ sting c t ≤ 2 * t := by
  unfold sting
  split
  · omega
  · split <;> omega
/-- the LAYERS of the onion at a: L of them, each 0 to 20 thick, of a KIND -/
def Lay (M : inm) (a L : Nat) : Prop := M a 0 = (L : Int) ∧ L ≤ 12 ∧ (∀ j, j < L → 0 ≤ M (a + 2) j ∧ M (a + 2) j ≤ 20) ∧ ∀ j, j < L → 0 ≤ M (a + 1) j ∧ M (a + 1) j ≤ 4
def sumTo (f : Nat → Int) : Nat → Int
  | 0 => 0
  | n + 1 => sumTo f n + f n
theorem sumTo_in {f : Nat → Int} {b : Int} : ∀ n, (∀ j, j < n → 0 ≤ f j ∧ f j ≤ b) → 0 ≤ sumTo f n ∧ sumTo f n ≤ b * n
  | 0, _ => ⟨Int.le_refl 0, by show (0 : Int) ≤ b * 0; omega⟩
  | n + 1, h => by
    have ih := sumTo_in n (fun j hj => h j (by omega))
    have h1 := h n (by omega)
    show 0 ≤ sumTo f n + f n ∧ sumTo f n + f n ≤ b * ((n + 1 : Nat) : Int)
    have e : b * ((n + 1 : Nat) : Int) = b * n + b := by rw [Int.natCast_add, Int.mul_add]; simp
    omega
theorem sumTo_congr {f g : Nat → Int} : ∀ n, (∀ j, j < n → f j = g j) → sumTo f n = sumTo g n
  | 0, _ => rfl
  | n + 1, h => by
    show sumTo f n + f n = sumTo g n + g n
    rw [sumTo_congr n (fun j hj => h j (by omega)), h n (by omega)]

def orTo (g : Nat → Nat) : Nat → Nat
  | 0 => 0
  | n + 1 => orTo g n ||| g n
/-- the first of the d numbers from k on with p; -1: none -/
def fst1 (p : Nat → Bool) : Nat → Nat → Int
  | 0, _ => -1
  | d + 1, k => if p k = true then (k : Int) else fst1 p d (k + 1)
/-- the first N of the cell A are those of f -/
def ov (M : inm) (A N : Nat) (f : Nat → Int) : inm := fun x j => if x = A ∧ j < N then f j else M x j
theorem ov_0 {M : inm} {A : Nat} {f : Nat → Int} : ov M A 0 f = M := by
  funext x j
  simp [ov]
theorem ov_s {M : inm} {A k : Nat} {f : Nat → Int} {z : Int} (h : z = f k) : up2 (ov M A k f) A k z = ov M A (k + 1) f := by
  funext x j
  unfold up2 ov
  by_cases h1 : x = A
  · subst h1
    by_cases h2 : j = k
    · subst h2
      simp [h]
    · by_cases h3 : j < k
      · rw [if_neg (by omega), if_pos ⟨rfl, h3⟩, if_pos ⟨rfl, by omega⟩]
      · rw [if_neg (by omega), if_neg (by omega), if_neg (by omega)]
  · rw [if_neg (by omega), if_neg (by omega), if_neg (by omega)]
theorem ov_in {M : inm} {A N j : Nat} {f : Nat → Int} (h : j < N) : ov M A N f A j = f j := by
  unfold ov
  rw [if_pos ⟨rfl, h⟩]
theorem ov_out {M : inm} {A N x j : Nat} {f : Nat → Int} (h : x ≠ A ∨ N ≤ j) : ov M A N f x j = M x j := by
  unfold ov
  rw [if_neg (by omega)]
theorem cp2_ne {M : inm} {a0 sp a1 dp u x j : Nat} (h : x ≠ a1) : cp2 M a0 sp a1 dp u x j = M x j := by
  unfold cp2
  rw [if_neg (by omega)]
theorem cp2_in {M : inm} {a0 sp a1 dp u j : Nat} (h1 : dp ≤ j) (h2 : j < dp + u) : cp2 M a0 sp a1 dp u a1 j = M a0 (sp + (j - dp)) := by
  unfold cp2
  rw [if_pos ⟨rfl, h1, h2⟩]
theorem cp2_out {M : inm} {a0 sp a1 dp u x j : Nat} (h : x ≠ a1 ∨ j < dp ∨ dp + u ≤ j) : cp2 M a0 sp a1 dp u x j = M x j := by
  unfold cp2
  rw [if_neg (by omega)]
theorem orTo_congr {f g : Nat → Nat} : ∀ n, (∀ j, j < n → f j = g j) → orTo f n = orTo g n
  | 0, _ => rfl
  | n + 1, h => by
    show orTo f n ||| f n = orTo g n ||| g n
    rw [orTo_congr n (fun j hj => h j (by omega)), h n (by omega)]
theorem orTo_lt {g : Nat → Nat} {b : Nat} : ∀ n, (∀ j, j < n → g j < 2 ^ b) → orTo g n < 2 ^ b
  | 0, _ => Nat.two_pow_pos b
  | n + 1, h => Nat.or_lt_two_pow (orTo_lt n (fun j hj => h j (by omega))) (h n (by omega))
theorem fst1_go {p : Nat → Bool} {d k : Nat} (hd : 0 < d) (h : p k = false) : fst1 p d k = fst1 p (d - 1) (k + 1) := by
  obtain ⟨e, rfl⟩ : ∃ e, d = e + 1 := ⟨d - 1, by omega⟩
  rw [fst1, if_neg (by rw [h]; decide)]
  rfl
theorem fst1_hit {p : Nat → Bool} {d k : Nat} (hd : 0 < d) (h : p k = true) : fst1 p d k = (k : Int) := by
  obtain ⟨e, rfl⟩ : ∃ e, d = e + 1 := ⟨d - 1, by omega⟩
  rw [fst1, if_pos h]
theorem sumTo_s (f : Nat → Int) (k : Nat) : sumTo f (k + 1) = sumTo f k + f k := rfl
theorem orTo_s (g : Nat → Nat) (k : Nat) : orTo g (k + 1) = orTo g k ||| g k := rfl
theorem fst1_congr {p q : Nat → Bool} : ∀ d k, (∀ j, k ≤ j → j < k + d → p j = q j) → fst1 p d k = fst1 q d k
  | 0, _, _ => rfl
  | d + 1, k, h => by
    show (if p k = true then (k : Int) else fst1 p d (k + 1)) = if q k = true then (k : Int) else fst1 q d (k + 1)
    rw [h k (by omega) (by omega), fst1_congr d (k + 1) (fun j h1 h2 => h j (by omega) (by omega))]

/-- numbers of the onion at a within bounds; years and peels at most U -/
def Bd (M : inm) (a U : Nat) : Prop := (∀ e, e < 5 → 0 ≤ M (a + 3) e ∧ M (a + 3) e ≤ 9999) ∧ (∀ e, e < 5 → 0 ≤ M (a + 4) e ∧ M (a + 4) e ≤ 9999) ∧ (∀ e, e < 5 → 0 ≤ M (a + 5) e ∧ M (a + 5) e ≤ U) ∧ (0 ≤ M a 7 ∧ M a 7 ≤ 20) ∧ (0 ≤ M a 8 ∧ M a 8 ≤ U) ∧ (-1 ≤ M a 11 ∧ M a 11 ≤ 4) ∧ (M a 9 = 0 ∨ M a 9 = 1) ∧ (M a 10 = 0 ∨ M a 10 = 1) ∧ U ≤ 1000000
def cutV (t : Nat → Int) (L : Nat) : Int := fst1 (fun j => decide (sumTo t L / 2 < sumTo t (j + 1))) L 0
def lawG (c : Nat → Int) (k : Nat) : Nat := if k = 0 then 0 else 2 ^ (5 * c (k - 1) + c k).toNat
def underG (kind law : Nat) (c : Nat → Int) (k : Nat) : Nat := if law &&& 2 ^ (5 * (kind : Int) + c k).toNat = 0 then 0 else 2 ^ k
/-- how long the row from k on is, d numbers at most -/
def rowL (c : Nat → Int) (k0 : Nat) : Nat → Nat → Nat
  | 0, k => k - k0
  | d + 1, k => if c k = c k0 then rowL c k0 d (k + 1) else k - k0
/-- the start of the longest row and its length, behind k LAYERS -/
def longG (c : Nat → Int) (L : Nat) (k : Nat) (s : Int × Int) : Int × Int := if s.2 < (rowL c k (L - (k + 1)) (k + 1) : Int) then ((k : Int), (rowL c k (L - (k + 1)) (k + 1) : Int)) else s
/-- who weeps most, and how much, behind e EXECUTORS -/
def weepG (T : Nat → Int) (e : Nat) (s : Int × Int) : Int × Int := if s.2 < T e then ((e : Int), T e) else s
def dryG (T q : Nat → Int) (e : Nat) (s : Int) : Int := max s ((T e + q e - 1) / q e)

set_option maxHeartbeats 4000000 in
set_option maxRecDepth 100000 in
theorem ok_X6_hasLayer {a w : Nat} {k : Int} {M : inm} {Q : Int → Nat → rfm → inm → Prop} (ha : On a) (h1 : 0 ≤ k → k < M a 0 → Q 1 303 (PP w) M) (h0 : ¬ (0 ≤ k ∧ k < M a 0) → Q 0 303 (PP w) M) : OkI yX6_hasLayer cX6_hasLayer 2 0 0 0 (some .boolean) [vR a, vI k] 303 (PP w) M Q := by
  refine OkI.of (by decide +kernel) (by decide +kernel) (Nat.le_of_ble_eq_true rfl) ?_
  refine go_eq (lv' := [(0, vR a), (1, vI k)]) rfl rfl rfl rfl rfl ?_
  refine go_iload_n 1 dX6_hasLayer_0 rfl rfl ?_
  refine go_if_lt (tgt := 16) dX6_hasLayer_1 rfl (fun c1 => ?_) (fun c1 => ?_)
  · refine go_iconst dX6_hasLayer_16 (by decide) ?_
    refine go_iret dX6_hasLayer_17 rfl rfl ⟨_, rfl, ?_⟩
    first | exact h1 (by omega) (by omega) | exact h0 (by omega)
  · refine go_iload_n 1 dX6_hasLayer_4 rfl rfl ?_
    refine go_aload_n 0 dX6_hasLayer_5 rfl rfl ?_
    refine gx_getI (v := (M a 0)) dX6_hasLayer_6 lk6_9.get ha.k0 ha.l0 rfl rfl ?_
    refine go_icmp_ge (tgt := 16) dX6_hasLayer_9 rfl (fun c2 => ?_) (fun c2 => ?_)
    · refine go_iconst dX6_hasLayer_16 (by decide) ?_
      refine go_iret dX6_hasLayer_17 rfl rfl ⟨_, rfl, ?_⟩
      first | exact h1 (by omega) (by omega) | exact h0 (by omega)
    · refine go_iconst dX6_hasLayer_12 (by decide) ?_
      refine go_goto (tgt := 17) dX6_hasLayer_13 rfl ?_
      refine go_iret dX6_hasLayer_17 rfl rfl ⟨_, rfl, ?_⟩
      first | exact h1 (by omega) (by omega) | exact h0 (by omega)

set_option maxHeartbeats 4000000 in
set_option maxRecDepth 100000 in
theorem ok_X6_canBePeeled {a w : Nat} {M : inm} {Q : Int → Nat → rfm → inm → Prop} (ha : On a) (h1 : 0 < M a 0 → M a 9 = 0 → Q 1 303 (PP w) M) (h0 : ¬ (0 < M a 0 ∧ M a 9 = 0) → Q 0 303 (PP w) M) : OkI yX6_canBePeeled cX6_canBePeeled 1 0 0 0 (some .boolean) [vR a] 303 (PP w) M Q := by
  refine OkI.of (by decide +kernel) (by decide +kernel) (Nat.le_of_ble_eq_true rfl) ?_
  refine go_eq (lv' := [(0, vR a)]) rfl rfl rfl rfl rfl ?_
  refine go_aload_n 0 dX6_canBePeeled_0 rfl rfl ?_
  refine gx_getI (v := (M a 0)) dX6_canBePeeled_1 lk6_9.get ha.k0 ha.l0 rfl rfl ?_
  refine go_if_le (tgt := 18) dX6_canBePeeled_4 rfl (fun c1 => ?_) (fun c1 => ?_)
  · refine go_iconst dX6_canBePeeled_18 (by decide) ?_
    refine go_iret dX6_canBePeeled_19 rfl rfl ⟨_, rfl, ?_⟩
    first | exact h1 (by omega) (by omega) | exact h0 (by omega)
  · refine go_aload_n 0 dX6_canBePeeled_7 rfl rfl ?_
    refine gx_getI (v := (M a 9)) dX6_canBePeeled_8 lk6_40.get ha.k0 ha.l0 rfl rfl ?_
    refine go_if_ne (tgt := 18) dX6_canBePeeled_11 rfl (fun c2 => ?_) (fun c2 => ?_)
    · refine go_iconst dX6_canBePeeled_18 (by decide) ?_
      refine go_iret dX6_canBePeeled_19 rfl rfl ⟨_, rfl, ?_⟩
      first | exact h1 (by omega) (by omega) | exact h0 (by omega)
    · refine go_iconst dX6_canBePeeled_14 (by decide) ?_
      refine go_goto (tgt := 19) dX6_canBePeeled_15 rfl ?_
      refine go_iret dX6_canBePeeled_19 rfl rfl ⟨_, rfl, ?_⟩
      first | exact h1 (by omega) (by omega) | exact h0 (by omega)

set_option maxHeartbeats 4000000 in
set_option maxRecDepth 100000 in
theorem ok_X6_worthOf {a w k : Nat} {M : inm} {Q : Int → Nat → rfm → inm → Prop} (ha : On a) (hk : (k : Int) < M a 0) (hk2 : k < 12) (ht : 0 ≤ M (a + 2) k ∧ M (a + 2) k ≤ 20) (hQ : Q (worth (M (a + 1) k) (M (a + 2) k)) 303 (PP w) M) : OkI yX6_worthOf cX6_worthOf 2 1 0 0 (some .int) [vR a, vI ((k : Nat) : Int)] 303 (PP w) M Q := by
  refine OkI.of (by decide +kernel) (by decide +kernel) (Nat.le_of_ble_eq_true rfl) ?_
  refine go_eq (lv' := [(0, vR a), (1, vI ((k : Nat) : Int))]) rfl rfl rfl rfl rfl ?_
  refine go_aload_n 0 dX6_worthOf_0 rfl rfl ?_
  refine go_iload_n 1 dX6_worthOf_1 rfl rfl ?_
  refine go_callVI (av := [vI ((k : Nat) : Int)]) (st := []) (a := a) (mc2 := 0) (ms2 := 0) dX6_worthOf_2 cw6_64 (by decide) rfl rfl (Nat.le_of_ble_eq_true rfl) rfl rfl ha.k0 ⟨_, _, rfl⟩ (by decide) ha.l0 (ok_X6_hasLayer ha (fun _ _ => ?_) (fun h => absurd ⟨by omega, by omega⟩ h))
  refine go_if_ne (tgt := 10) dX6_worthOf_5 rfl (fun c1 => ?_) (fun c1 => ?_)
  · refine go_aload_n 0 dX6_worthOf_10 rfl rfl ?_
    refine go_getR (r := (a + 1)) dX6_worthOf_11 lk6_15.get ha.k0 ha.l0 rfl (ha.p1 _) ?_
    refine go_iload_n 1 dX6_worthOf_14 rfl rfl ?_
    refine gx_iaload (v := (M (a + 1) k)) k dX6_worthOf_15 ha.k1 ha.l1 ha.n1 rfl (by omega) rfl ?_
    by_cases s2 : (M (a + 1) k) = 1
    · refine go_tblIn (tgt := 48) dX6_worthOf_16 (by omega) (by omega) (by rw [s2]; rfl) rfl ?_
      refine go_aload_n 0 dX6_worthOf_48 rfl rfl ?_
      refine go_getR (r := (a + 2)) dX6_worthOf_49 lk6_19.get ha.k0 ha.l0 rfl (ha.p2 _) ?_
      refine go_iload_n 1 dX6_worthOf_52 rfl rfl ?_
      have f3 := ht
      refine gx_iaload (v := (M (a + 2) k)) k dX6_worthOf_53 ha.k2 ha.l2 ha.n2 rfl (by omega) rfl ?_
      refine go_iconst dX6_worthOf_54 (by decide) ?_
      refine gx_idiv (v := ((M (a + 2) k) / 2)) dX6_worthOf_55 rfl (by omega) (by omega) ?_
      refine go_iret dX6_worthOf_56 rfl rfl ⟨_, rfl, ?_⟩
      rw [worth] at hQ
      first | exact hQ | (simp only [if_pos, if_neg, *, not_true_eq_false, not_false_eq_true, if_false, if_true] at hQ; exact hQ) | (simp_all; done)
    · skip
      by_cases s4 : (M (a + 1) k) = 2
      · refine go_tblIn (tgt := 57) dX6_worthOf_16 (by omega) (by omega) (by rw [s4]; rfl) rfl ?_
        refine go_iconst dX6_worthOf_57 (by decide) ?_
        refine go_aload_n 0 dX6_worthOf_58 rfl rfl ?_
        refine go_getR (r := (a + 2)) dX6_worthOf_59 lk6_19.get ha.k0 ha.l0 rfl (ha.p2 _) ?_
        refine go_iload_n 1 dX6_worthOf_62 rfl rfl ?_
        have f5 := ht
        refine gx_iaload (v := (M (a + 2) k)) k dX6_worthOf_63 ha.k2 ha.l2 ha.n2 rfl (by omega) rfl ?_
        refine gx_imul (v := (2 * (M (a + 2) k))) dX6_worthOf_64 rfl ⟨by omega, by omega⟩ ?_
        refine go_iret dX6_worthOf_65 rfl rfl ⟨_, rfl, ?_⟩
        rw [worth] at hQ
        first | exact hQ | (simp only [if_pos, if_neg, *, not_true_eq_false, not_false_eq_true, if_false, if_true] at hQ; exact hQ) | (simp_all; done)
      · skip
        by_cases s6 : (M (a + 1) k) = 3
        · refine go_tblIn (tgt := 68) dX6_worthOf_16 (by omega) (by omega) (by rw [s6]; rfl) rfl ?_
          refine go_aload_n 0 dX6_worthOf_68 rfl rfl ?_
          refine go_getR (r := (a + 2)) dX6_worthOf_69 lk6_19.get ha.k0 ha.l0 rfl (ha.p2 _) ?_
          refine go_iload_n 1 dX6_worthOf_72 rfl rfl ?_
          have f7 := ht
          refine gx_iaload (v := (M (a + 2) k)) k dX6_worthOf_73 ha.k2 ha.l2 ha.n2 rfl (by omega) rfl ?_
          refine go_iret dX6_worthOf_74 rfl rfl ⟨_, rfl, ?_⟩
          rw [worth] at hQ
          first | exact hQ | (simp only [if_pos, if_neg, *, not_true_eq_false, not_false_eq_true, if_false, if_true] at hQ; exact hQ) | (simp_all; done)
        · skip
          by_cases s8 : (M (a + 1) k) = 4
          · refine go_tblIn (tgt := 66) dX6_worthOf_16 (by omega) (by omega) (by rw [s8]; rfl) rfl ?_
            refine go_iconst dX6_worthOf_66 (by decide) ?_
            refine go_iret dX6_worthOf_67 rfl rfl ⟨_, rfl, ?_⟩
            rw [worth] at hQ
            first | exact hQ | (simp only [if_pos, if_neg, *, not_true_eq_false, not_false_eq_true, if_false, if_true] at hQ; exact hQ) | (simp_all; done)
          · skip
            refine go_tblOut (tgt := 68) dX6_worthOf_16 (by omega) rfl ?_
            refine go_aload_n 0 dX6_worthOf_68 rfl rfl ?_
            refine go_getR (r := (a + 2)) dX6_worthOf_69 lk6_19.get ha.k0 ha.l0 rfl (ha.p2 _) ?_
            refine go_iload_n 1 dX6_worthOf_72 rfl rfl ?_
            have f9 := ht
            refine gx_iaload (v := (M (a + 2) k)) k dX6_worthOf_73 ha.k2 ha.l2 ha.n2 rfl (by omega) rfl ?_
            refine go_iret dX6_worthOf_74 rfl rfl ⟨_, rfl, ?_⟩
            rw [worth] at hQ
            first | exact hQ | (simp only [if_pos, if_neg, *, not_true_eq_false, not_false_eq_true, if_false, if_true] at hQ; exact hQ) | (simp_all; done)
  · refine go_iconst dX6_worthOf_8 (by decide) ?_
    refine go_iret dX6_worthOf_9 rfl rfl ⟨_, rfl, ?_⟩
    rw [worth] at hQ
    first | exact hQ | (simp only [if_pos, if_neg, *, not_true_eq_false, not_false_eq_true, if_false, if_true] at hQ; exact hQ) | (simp_all; done)

set_option maxHeartbeats 4000000 in
set_option maxRecDepth 100000 in
theorem ok_X6_stingOf {a w k : Nat} {M : inm} {Q : Int → Nat → rfm → inm → Prop} (ha : On a) (hk : (k : Int) < M a 0) (hk2 : k < 12) (ht : 0 ≤ M (a + 2) k ∧ M (a + 2) k ≤ 20) (hQ : Q (sting (M (a + 1) k) (M (a + 2) k)) 303 (PP w) M) : OkI yX6_stingOf cX6_stingOf 2 1 0 0 (some .int) [vR a, vI ((k : Nat) : Int)] 303 (PP w) M Q := by
  refine OkI.of (by decide +kernel) (by decide +kernel) (Nat.le_of_ble_eq_true rfl) ?_
  refine go_eq (lv' := [(0, vR a), (1, vI ((k : Nat) : Int))]) rfl rfl rfl rfl rfl ?_
  refine go_aload_n 0 dX6_stingOf_0 rfl rfl ?_
  refine go_iload_n 1 dX6_stingOf_1 rfl rfl ?_
  refine go_callVI (av := [vI ((k : Nat) : Int)]) (st := []) (a := a) (mc2 := 0) (ms2 := 0) dX6_stingOf_2 cw6_64 (by decide) rfl rfl (Nat.le_of_ble_eq_true rfl) rfl rfl ha.k0 ⟨_, _, rfl⟩ (by decide) ha.l0 (ok_X6_hasLayer ha (fun _ _ => ?_) (fun h => absurd ⟨by omega, by omega⟩ h))
  refine go_if_ne (tgt := 10) dX6_stingOf_5 rfl (fun c1 => ?_) (fun c1 => ?_)
  · refine go_aload_n 0 dX6_stingOf_10 rfl rfl ?_
    refine go_getR (r := (a + 1)) dX6_stingOf_11 lk6_15.get ha.k0 ha.l0 rfl (ha.p1 _) ?_
    refine go_iload_n 1 dX6_stingOf_14 rfl rfl ?_
    refine gx_iaload (v := (M (a + 1) k)) k dX6_stingOf_15 ha.k1 ha.l1 ha.n1 rfl (by omega) rfl ?_
    by_cases s2 : (M (a + 1) k) = 2
    · refine go_look (tgt := 44) dX6_stingOf_16 (by decide) (by first | (rw [s2]; done) | (rw [s2]; rfl)) rfl ?_
      refine go_iconst dX6_stingOf_44 (by decide) ?_
      refine go_aload_n 0 dX6_stingOf_45 rfl rfl ?_
      refine go_getR (r := (a + 2)) dX6_stingOf_46 lk6_19.get ha.k0 ha.l0 rfl (ha.p2 _) ?_
      refine go_iload_n 1 dX6_stingOf_49 rfl rfl ?_
      have f3 := ht
      refine gx_iaload (v := (M (a + 2) k)) k dX6_stingOf_50 ha.k2 ha.l2 ha.n2 rfl (by omega) rfl ?_
      refine gx_imul (v := (2 * (M (a + 2) k))) dX6_stingOf_51 rfl ⟨by omega, by omega⟩ ?_
      refine go_iret dX6_stingOf_52 rfl rfl ⟨_, rfl, ?_⟩
      rw [sting] at hQ
      first | exact hQ | (simp only [if_pos, if_neg, *, not_true_eq_false, not_false_eq_true, if_false, if_true] at hQ; exact hQ) | (simp_all; done)
    · skip
      by_cases s4 : (M (a + 1) k) = 4
      · refine go_look (tgt := 53) dX6_stingOf_16 (by decide) (by first | (rw [s4]; done) | (rw [s4]; rfl)) rfl ?_
        refine go_iconst dX6_stingOf_53 (by decide) ?_
        refine go_iret dX6_stingOf_54 rfl rfl ⟨_, rfl, ?_⟩
        rw [sting] at hQ
        first | exact hQ | (simp only [if_pos, if_neg, *, not_true_eq_false, not_false_eq_true, if_false, if_true] at hQ; exact hQ) | (simp_all; done)
      · skip
        refine go_look (tgt := 55) dX6_stingOf_16 (by decide) (by first | (rw [look_miss s2, look_miss s4]; done) | (rw [look_miss s2, look_miss s4]; rfl)) rfl ?_
        refine go_aload_n 0 dX6_stingOf_55 rfl rfl ?_
        refine go_getR (r := (a + 2)) dX6_stingOf_56 lk6_19.get ha.k0 ha.l0 rfl (ha.p2 _) ?_
        refine go_iload_n 1 dX6_stingOf_59 rfl rfl ?_
        have f5 := ht
        refine gx_iaload (v := (M (a + 2) k)) k dX6_stingOf_60 ha.k2 ha.l2 ha.n2 rfl (by omega) rfl ?_
        refine go_iret dX6_stingOf_61 rfl rfl ⟨_, rfl, ?_⟩
        rw [sting] at hQ
        first | exact hQ | (simp only [if_pos, if_neg, *, not_true_eq_false, not_false_eq_true, if_false, if_true] at hQ; exact hQ) | (simp_all; done)
  · refine go_iconst dX6_stingOf_8 (by decide) ?_
    refine go_iret dX6_stingOf_9 rfl rfl ⟨_, rfl, ?_⟩
    rw [sting] at hQ
    first | exact hQ | (simp only [if_pos, if_neg, *, not_true_eq_false, not_false_eq_true, if_false, if_true] at hQ; exact hQ) | (simp_all; done)

