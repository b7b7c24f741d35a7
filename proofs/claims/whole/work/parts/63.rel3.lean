/-! ===== a layer is taken off ===== -/
theorem mT2_out {A : inm} {e x j : Nat} {r : Int} (h : x < 33 ∨ 35 < x) : mTake2 A 30 e r x j = A x j := by
  unfold mTake2 mTake1
  split
  · repeat (first | (with_reducible rfl) | (refine up2_same.trans ?_) | (refine (up2_ne (by omega)).trans ?_) | (refine (cp2_ne (by omega)).trans ?_) | (refine (cp2_in (by omega) (by omega)).trans ?_) | (refine (cp2_out (by omega)).trans ?_) | (refine (ov_in (by omega)).trans ?_) | (refine (ov_out (by omega)).trans ?_) | (refine (ovo_in (by omega) (by omega)).trans ?_) | (refine (ovo_out (by omega)).trans ?_))
  · repeat (first | (with_reducible rfl) | (refine up2_same.trans ?_) | (refine (up2_ne (by omega)).trans ?_) | (refine (cp2_ne (by omega)).trans ?_) | (refine (cp2_in (by omega) (by omega)).trans ?_) | (refine (cp2_out (by omega)).trans ?_) | (refine (ov_in (by omega)).trans ?_) | (refine (ov_out (by omega)).trans ?_) | (refine (ovo_in (by omega) (by omega)).trans ?_) | (refine (ovo_out (by omega)).trans ?_))
theorem mT3_out {A : inm} {e x j : Nat} {r : Int} (h : x < 30 ∨ 36 < x) : mTake3 A 30 e r x j = A x j := by
  unfold mTake3 mEnter
  repeat (first | (refine (up2_ne (by omega)).trans ?_) | (refine (cp2_ne (by omega)).trans ?_))
  exact mT2_out (by omega)
theorem mT_out {A : inm} {e x j : Nat} {r : Int} (h : x < 30 ∨ 36 < x) : mTake A 30 e r x j = A x j := by
  unfold mTake
  split
  · exact (up2_ne (by omega)).trans (mT3_out h)
  · exact mT3_out h
theorem mT_3 {A : inm} {e x j : Nat} {r : Int} (h : x ≠ 30 ∨ j ≠ 10) : mTake A 30 e r x j = mTake3 A 30 e r x j := by
  unfold mTake
  split
  · exact up2_ne (by omega)
  · rfl
theorem mT3_0 {A : inm} {e : Nat} {r : Int} : mTake3 A 30 e r 30 0 = A 30 0 - 1 := by
  unfold mTake3
  exact (cp2_ne (by omega)).trans ((cp2_ne (by omega)).trans up2_same)
theorem mT3_k {A : inm} {e j : Nat} {r : Int} (hj : j < 11) : mTake3 A 30 e r 31 j = A 31 (j + 1) := by
  unfold mTake3 mEnter
  refine (cp2_ne (by omega)).trans ((cp2_in (by omega) (by omega)).trans ?_)
  repeat (first | (refine (up2_ne (by omega)).trans ?_) | (refine (cp2_ne (by omega)).trans ?_))
  refine (mT2_out (by omega)).trans ?_
  exact congrArg (A 31) (by omega)
theorem mT3_t {A : inm} {e j : Nat} {r : Int} (hj : j < 11) : mTake3 A 30 e r 32 j = A 32 (j + 1) := by
  unfold mTake3 mEnter
  refine (cp2_in (by omega) (by omega)).trans ?_
  repeat (first | (refine (up2_ne (by omega)).trans ?_) | (refine (cp2_ne (by omega)).trans ?_))
  refine (mT2_out (by omega)).trans ?_
  exact congrArg (A 32) (by omega)
theorem mT3_2 {A : inm} {e x j : Nat} {r : Int} (h : (33 ≤ x ∧ x ≤ 35) ∨ (x = 30 ∧ 8 ≤ j ∧ j ≤ 10)) : mTake3 A 30 e r x j = mTake2 A 30 e r x j := by
  unfold mTake3 mEnter
  repeat (first | (refine (up2_ne (by omega)).trans ?_) | (refine (cp2_ne (by omega)).trans ?_))
  rfl
theorem mT3_11 {A : inm} {e : Nat} {r : Int} : mTake3 A 30 e r 30 11 = (e : Int) := by
  unfold mTake3 mEnter
  repeat (first | (refine (up2_ne (by omega)).trans ?_) | (refine (cp2_ne (by omega)).trans ?_))
  exact up2_same
theorem mT3_7 {A : inm} {e : Nat} {r : Int} : mTake3 A 30 e r 30 7 = min 20 (A 30 7 + 1) := by
  unfold mTake3 mEnter
  refine (cp2_ne (by omega)).trans ((cp2_ne (by omega)).trans ((up2_ne (by omega)).trans (up2_same.trans ?_)))
  rw [up2_ne (by omega), mT2_out (by omega)]
theorem mT3_L {A : inm} {e i q : Nat} {r : Int} (hi : 1 ≤ i ∧ i < 20) (hq : q < 4) : mTake3 A 30 e r 36 (i * 4 + q) = A 36 ((i - 1) * 4 + q) := by
  unfold mTake3 mEnter
  refine (cp2_ne (by omega)).trans ((cp2_ne (by omega)).trans ((up2_ne (by omega)).trans ((up2_ne (by omega)).trans ((up2_ne (by omega)).trans ((up2_ne (by omega)).trans ((up2_ne (by omega)).trans ((up2_ne (by omega)).trans ((cp2_in (by omega) (by omega)).trans ((up2_ne (by omega)).trans ((mT2_out (by omega)).trans ?_))))))))))
  exact congrArg (A 36) (by omega)
theorem mT3_L0 {A : inm} {e q : Nat} {r : Int} (hq : q < 4) : mTake3 A 30 e r 36 q = if q = 0 then A 30 8 else if q = 1 then (e : Int) else if q = 2 then A 31 0 else A 32 0 := by
  unfold mTake3 mEnter
  have e8 : up2 (mTake2 A 30 e r) 30 11 (e : Int) 30 8 = A 30 8 := (up2_ne (by omega)).trans (mT2_out (by omega))
  have e1 : up2 (mTake2 A 30 e r) 30 11 (e : Int) (30 + 1) 0 = A 31 0 := (up2_ne (by omega)).trans (mT2_out (by omega))
  have e2 : up2 (mTake2 A 30 e r) 30 11 (e : Int) (30 + 2) 0 = A 32 0 := (up2_ne (by omega)).trans (mT2_out (by omega))
  rw [e8, e1, e2]
  have hq4 : q = 0 ∨ q = 1 ∨ q = 2 ∨ q = 3 := by omega
  rcases hq4 with rfl | rfl | rfl | rfl
  · refine (cp2_ne (by omega)).trans ((cp2_ne (by omega)).trans ((up2_ne (by omega)).trans ((up2_ne (by omega)).trans ((up2_ne (by omega)).trans ((up2_ne (by omega)).trans ((up2_ne (by omega)).trans up2_same))))))
  · refine (cp2_ne (by omega)).trans ((cp2_ne (by omega)).trans ((up2_ne (by omega)).trans ((up2_ne (by omega)).trans ((up2_ne (by omega)).trans ((up2_ne (by omega)).trans up2_same)))))
  · refine (cp2_ne (by omega)).trans ((cp2_ne (by omega)).trans ((up2_ne (by omega)).trans ((up2_ne (by omega)).trans ((up2_ne (by omega)).trans up2_same))))
  · refine (cp2_ne (by omega)).trans ((cp2_ne (by omega)).trans ((up2_ne (by omega)).trans ((up2_ne (by omega)).trans up2_same)))
theorem mT_10 {A : inm} {e : Nat} {r : Int} : mTake A 30 e r 30 10 = if A 30 0 = 1 then 1 else A 30 10 := by
  unfold mTake
  split
  · exact up2_same
  · exact (mT3_2 (by omega)).trans (mT2_out (by omega))
/-- what an executor has got, behind a peel: the same words for both -/
def gotV (g : Nat → Int) (e : Nat) (v : Int) (bt : Prop) [Decidable bt] (la : Int) (i : Nat) : Int := if bt ∧ (i : Int) = la then min 9999 ((if i = e then min 9999 (g e + v) else g i) + 5) else if i = e then min 9999 (g e + v) else g i
theorem mT2_got {A : inm} {e i : Nat} {r : Int} : mTake2 A 30 e r 33 i = gotV (fun i => A 33 i) e (worth (A 31 0) (A 32 0)) (A 31 0 = 4 ∧ 0 ≤ A 30 11) (A 30 11) i := by
  unfold mTake2 gotV
  have e1 : ∀ i, mTake1 A 30 e r 33 i = if i = e then min 9999 (A 33 e + worth (A 31 0) (A 32 0)) else A 33 i := fun i => by
    unfold mTake1
    refine (up2_ne (by omega)).trans ((up2_ne (by omega)).trans ?_)
    by_cases h : i = e
    · subst h
      rw [if_pos rfl]
      exact up2_same
    · rw [if_neg h]
      exact up2_ne (by omega)
  have e2 : ∀ i, up2 A (30 + 3) e (min 9999 (A (30 + 3) e + worth (A (30 + 1) 0) (A (30 + 2) 0))) (30 + 3) i = if i = e then min 9999 (A 33 e + worth (A 31 0) (A 32 0)) else A 33 i := fun i => by
    by_cases h : i = e
    · subst h
      rw [if_pos rfl]
      exact up2_same
    · rw [if_neg h]
      exact up2_ne (by omega)
  by_cases hb : A 31 0 = 4 ∧ 0 ≤ A 30 11
  · rw [if_pos hb, e2]
    by_cases h : (i : Int) = A 30 11
    · have h3 : (A 30 11).toNat = i := by omega
      rw [h3, if_pos (show (A 31 0 = 4 ∧ 0 ≤ A 30 11) ∧ (i : Int) = A 30 11 from ⟨hb, h⟩)]
      exact up2_same
    · rw [if_neg (show ¬ ((A 31 0 = 4 ∧ 0 ≤ A 30 11) ∧ (i : Int) = A 30 11) from fun q => h q.2)]
      exact (up2_ne (by omega)).trans (e1 i)
  · rw [if_neg hb, if_neg (show ¬ ((A 31 0 = 4 ∧ 0 ≤ A 30 11) ∧ (i : Int) = A 30 11) from fun q => hb q.1)]
    exact e1 i
theorem mT2_tears {A : inm} {e i : Nat} {r : Int} : mTake2 A 30 e r 34 i = if i = e then min 9999 (A 34 e + sting (A 31 0) (A 32 0) + r) else A 34 i := by
  have e1 : mTake1 A 30 e r 34 i = if i = e then min 9999 (A 34 e + sting (A 31 0) (A 32 0) + r) else A 34 i := by
    unfold mTake1
    refine (up2_ne (by omega)).trans ?_
    by_cases h : i = e
    · subst h
      rw [if_pos rfl]
      exact up2_same
    · rw [if_neg h]
      exact (up2_ne (by omega)).trans (up2_ne (by omega))
  unfold mTake2
  split
  · exact (up2_ne (by omega)).trans e1
  · exact e1
theorem mT2_pl {A : inm} {e i : Nat} {r : Int} : mTake2 A 30 e r 35 i = if i = e then A 35 e + 1 else A 35 i := by
  have e1 : mTake1 A 30 e r 35 i = if i = e then A 35 e + 1 else A 35 i := by
    unfold mTake1
    by_cases h : i = e
    · subst h
      rw [if_pos rfl]
      exact up2_same
    · rw [if_neg h]
      exact (up2_ne (by omega)).trans ((up2_ne (by omega)).trans (up2_ne (by omega)))
  unfold mTake2
  split
  · exact (up2_ne (by omega)).trans e1
  · exact e1
/-! the reference's -/
theorem rTk_out {B : inm} {n L j y i : Nat} {x z : Int} (h : y ≠ 284 ∨ (i ≠ 0 ∧ i ≠ 28 ∧ i < 44)) : rTk B n L j x z y i = B y i := by
  unfold rTk
  exact (up2_ne (by omega)).trans ((rEnter_out (by omega)).trans (up2_ne (by omega)))
theorem rTake_out {B : inm} {j n L y i : Nat} (hj : j < 5 ∧ B 284 28 ≤ 4) (h : y ≠ 284) : rTake B j n L y i = B y i := by
  unfold rTake rSh
  exact (up2_ne (by omega)).trans ((ovo_out (by omega)).trans ((ovo_out (by omega)).trans ((rTk_out (by omega)).trans (rT2_out hj (by omega)))))
theorem rTk_28 {B : inm} {n L j : Nat} {x z : Int} : rTk B n L j x z 284 28 = (j : Int) := by
  unfold rTk
  exact (up2_ne (by omega)).trans ((rEnter_out (by omega)).trans up2_same)
theorem rSh_out {B : inm} {l i : Nat} (h : i = 0 ∨ i = 25 ∨ i = 26 ∨ 28 ≤ i) : rSh B l 284 i = B 284 i := by
  unfold rSh
  exact (up2_ne (by omega)).trans ((ovo_out (by omega)).trans (ovo_out (by omega)))
theorem rTake_0 {B : inm} {j n L : Nat} : rTake B j n L 284 0 = ((L - 1 : Nat) : Int) := by
  unfold rTake
  refine (rSh_out (by omega)).trans ?_
  unfold rTk
  exact up2_same
theorem rTake_k {B : inm} {j n L i : Nat} (hj : j < 5 ∧ B 284 28 ≤ 4) (hL : L ≤ 12) (hi : i < L - 1) : rTake B j n L 284 (i + 1) = B 284 (i + 1 + 1) := by
  unfold rTake rSh
  refine (up2_ne (by omega)).trans ((ovo_out (by omega)).trans ((ovo_in (by omega) (by omega)).trans ?_))
  rw [if_pos (by omega)]
  refine (rTk_out (by omega)).trans ((rT2_out hj (by omega)).trans ?_)
  exact congrArg (B 284) (by omega)
theorem rTake_t {B : inm} {j n L i : Nat} (hj : j < 5 ∧ B 284 28 ≤ 4) (hL : L ≤ 12) (hi : i < L - 1) : rTake B j n L 284 (i + 13) = B 284 (i + 1 + 13) := by
  unfold rTake rSh
  refine (up2_ne (by omega)).trans ((ovo_in (by omega) (by omega)).trans ?_)
  rw [if_pos (by omega)]
  refine (rTk_out (by omega)).trans ((rT2_out hj (by omega)).trans ?_)
  exact congrArg (B 284) (by omega)
theorem rTake_s {B : inm} {j n L i : Nat} (hj : j < 5 ∧ B 284 28 ≤ 4) (hi : i = 25 ∨ i = 26) : rTake B j n L 284 i = B 284 i := by
  unfold rTake
  exact (rSh_out (by omega)).trans ((rTk_out (by omega)).trans (rT2_out hj (by omega)))
theorem rTake_27 {B : inm} {j n L : Nat} (hj : j < 5 ∧ B 284 28 ≤ 4) : rTake B j n L 284 27 = if L - 1 = 0 then B 279 1 else B 284 27 := by
  unfold rTake rSh
  rw [up2_same, rTk_out (by omega), rTk_out (by omega), rT2_out hj (by omega), rT2_out hj (by omega)]
theorem rTake_28 {B : inm} {j n L : Nat} : rTake B j n L 284 28 = (j : Int) := by
  unfold rTake
  exact (rSh_out (by omega)).trans rTk_28
theorem rTake_2 {B : inm} {j n L i : Nat} (hi : 29 ≤ i ∧ i < 44) : rTake B j n L 284 i = rTake2 B j 284 i := by
  unfold rTake
  exact (rSh_out (by omega)).trans (rTk_out (by omega))
theorem rT2_got {B : inm} {j i : Nat} (hj : j < 5 ∧ B 284 28 ≤ 4) (hi : i < 5) : rTake2 B j 284 (i + 29) = gotV (fun i => B 284 (i + 29)) j (worth (B 284 1) (B 284 13)) (B 284 1 = 4 ∧ 0 ≤ B 284 28) (B 284 28) i := by
  have e1 : ∀ i, i < 5 → rTake1 B j 284 (i + 29) = if i = j then min 9999 (B 284 (j + 29) + worth (B 284 1) (B 284 13)) else B 284 (i + 29) := fun i hi => by
    unfold rTake1
    refine (up2_ne (by omega)).trans ((up2_ne (by omega)).trans ?_)
    by_cases h : i = j
    · subst h
      rw [if_pos rfl]
      exact up2_same
    · rw [if_neg h]
      exact up2_ne (by omega)
  unfold rTake2 gotV
  by_cases hb : B 284 1 = 4 ∧ 0 ≤ B 284 28
  · rw [if_pos hb]
    by_cases h : (i : Int) = B 284 28
    · have h3 : (29 + B 284 28).toNat = i + 29 := by omega
      rw [if_pos ⟨hb, h⟩, h3, up2_same, e1 i hi]
    · rw [if_neg (fun q => h q.2)]
      exact (up2_ne (by omega)).trans (e1 i hi)
  · rw [if_neg hb, if_neg (fun q => hb q.1)]
    exact e1 i hi
theorem rT2_tears {B : inm} {j i : Nat} (hj : j < 5 ∧ B 284 28 ≤ 4) (hi : i < 5) : rTake2 B j 284 (i + 34) = if i = j then min 9999 (B 284 (j + 34) + sting (B 284 1) (B 284 13) + B 280 j) else B 284 (i + 34) := by
  have e1 : rTake1 B j 284 (i + 34) = if i = j then min 9999 (B 284 (j + 34) + sting (B 284 1) (B 284 13) + B 280 j) else B 284 (i + 34) := by
    unfold rTake1
    refine (up2_ne (by omega)).trans ?_
    by_cases h : i = j
    · subst h
      rw [if_pos rfl]
      exact up2_same
    · rw [if_neg h]
      exact (up2_ne (by omega)).trans (up2_ne (by omega))
  unfold rTake2
  split
  · exact (up2_ne (by omega)).trans e1
  · exact e1
theorem rT2_pl {B : inm} {j i : Nat} (hj : j < 5 ∧ B 284 28 ≤ 4) (hi : i < 5) : rTake2 B j 284 (i + 39) = if i = j then B 284 (j + 39) + 1 else B 284 (i + 39) := by
  have e1 : rTake1 B j 284 (i + 39) = if i = j then B 284 (j + 39) + 1 else B 284 (i + 39) := by
    unfold rTake1
    by_cases h : i = j
    · subst h
      rw [if_pos rfl]
      exact up2_same
    · rw [if_neg h]
      exact (up2_ne (by omega)).trans ((up2_ne (by omega)).trans (up2_ne (by omega)))
  unfold rTake2
  split
  · exact (up2_ne (by omega)).trans e1
  · exact e1
theorem rTake_44 {B : inm} {j n L : Nat} (hn : n ≤ 20) : rTake B j n L 284 44 = ((min 20 (n + 1) : Nat) : Int) := by
  unfold rTake
  refine (rSh_out (by omega)).trans ?_
  unfold rTk rEnter
  refine (up2_ne (by omega)).trans ?_
  by_cases h : n = 20
  · rw [if_pos h, up2_same]
    omega
  · rw [if_neg h, up2_same]
    omega
theorem rTake_L0 {B : inm} {j n L q : Nat} (hj : j < 5 ∧ B 284 28 ≤ 4) (hn : n ≤ 20) (hq : q < 4) : rTake B j n L 284 (4 * (min 20 (n + 1) - 1) + 45 + q) = if q = 0 then B 284 25 else if q = 1 then (j : Int) else if q = 2 then B 284 1 else B 284 13 := by
  unfold rTake
  refine (rSh_out (by omega)).trans ?_
  unfold rTk rEnter
  refine (up2_ne (by omega)).trans ?_
  have e8 : up2 (rTake2 B j) 284 28 (j : Int) 284 25 = B 284 25 := (up2_ne (by omega)).trans (rT2_out hj (by omega))
  rw [e8]
  have hq4 : q = 0 ∨ q = 1 ∨ q = 2 ∨ q = 3 := by omega
  by_cases h : n = 20
  · rw [if_pos h, show 4 * (min 20 (n + 1) - 1) + 45 + q = 121 + q by omega]
    rcases hq4 with rfl | rfl | rfl | rfl
    · exact (up2_ne (by omega)).trans ((up2_ne (by omega)).trans ((up2_ne (by omega)).trans ((up2_ne (by omega)).trans up2_same)))
    · exact (up2_ne (by omega)).trans ((up2_ne (by omega)).trans ((up2_ne (by omega)).trans up2_same))
    · exact (up2_ne (by omega)).trans ((up2_ne (by omega)).trans up2_same)
    · exact (up2_ne (by omega)).trans up2_same
  · rw [if_neg h, show 4 * (min 20 (n + 1) - 1) + 45 + q = 4 * n + 45 + q by omega]
    rcases hq4 with rfl | rfl | rfl | rfl
    · exact (up2_ne (by omega)).trans ((up2_ne (by omega)).trans ((up2_ne (by omega)).trans ((up2_ne (by omega)).trans up2_same)))
    · exact (up2_ne (by omega)).trans ((up2_ne (by omega)).trans ((up2_ne (by omega)).trans up2_same))
    · exact (up2_ne (by omega)).trans ((up2_ne (by omega)).trans up2_same)
    · exact (up2_ne (by omega)).trans up2_same
theorem rTake_L {B : inm} {j n L i q : Nat} (hj : j < 5 ∧ B 284 28 ≤ 4) (hn : n ≤ 20) (hq : q < 4) (h1 : 1 ≤ i) (hi : i < min 20 (n + 1)) : rTake B j n L 284 (4 * (min 20 (n + 1) - 1 - i) + 45 + q) = B 284 (4 * (n - 1 - (i - 1)) + 45 + q) := by
  unfold rTake
  refine (rSh_out (by omega)).trans ?_
  unfold rTk rEnter
  refine (up2_ne (by omega)).trans ?_
  by_cases h : n = 20
  · rw [if_pos h]
    refine (up2_ne (by omega)).trans ((up2_ne (by omega)).trans ((up2_ne (by omega)).trans ((up2_ne (by omega)).trans ((up2_ne (by omega)).trans ((up2_ne (by omega)).trans ((cp2_in (by omega) (by omega)).trans ((up2_ne (by omega)).trans ((rT2_out hj (by omega)).trans ?_))))))))
    exact congrArg (B 284) (by omega)
  · rw [if_neg h]
    refine (up2_ne (by omega)).trans ((up2_ne (by omega)).trans ((up2_ne (by omega)).trans ((up2_ne (by omega)).trans ((up2_ne (by omega)).trans ((up2_ne (by omega)).trans ((rT2_out hj (by omega)).trans ?_))))))
    exact congrArg (B 284) (by omega)
theorem gotV_congr {g g' : Nat → Int} {e i : Nat} {v v' la la' : Int} {b b' : Prop} [Decidable b] [Decidable b'] (hg : ∀ i, i < 5 → g i = g' i) (he : e < 5) (hi : i < 5) (hv : v = v') (hb : b ↔ b') (hl : la = la') : gotV g e v b la i = gotV g' e v' b' la' i := by
  unfold gotV
  subst hv
  subst hl
  rw [hg e he, hg i hi]
  by_cases h : b
  · simp only [h, hb.mp h]
  · have h' : ¬ b' := fun q => h (hb.mpr q)
    simp only [h, h']
theorem gotV_in {g : Nat → Int} {e i : Nat} {v la : Int} {b : Prop} [Decidable b] (hg : ∀ i, i < 5 → 0 ≤ g i ∧ g i ≤ 9999) (he : e < 5) (hi : i < 5) (hv : 0 ≤ v) : 0 ≤ gotV g e v b la i ∧ gotV g e v b la i ≤ 9999 := by
  have h1 := hg e he
  have h2 := hg i hi
  unfold gotV
  split <;> split <;> omega
section Take
variable {A B A' B' : inm} {w U E T : Nat} {lt : Nat → Nat} {L n x c : Nat}
theorem OR.take {mid : Int} {j : Nat} {r : Int} (h : OR (fun i => A (30 + i)) (B 284) mid L n) (hb : Bd A 30 U) (h1 : 1 ≤ L) (hj : j < 5) (hr : r = B 280 j) (hm : mid = B 279 1) : OR (fun i => mTake A 30 j r (30 + i)) (rTake B j n L 284) mid (L - 1) (min 20 (n + 1)) := by
  obtain ⟨⟨a1, a2, a3⟩, b, g, ⟨d1, d2, d3, d4⟩, e1, e2, e3, e4⟩ := h
  have h28 : B 284 28 ≤ 4 := by rw [← d4]; exact hb.2.2.2.2.2.1.2
  have hjj : j < 5 ∧ B 284 28 ≤ 4 := ⟨hj, h28⟩
  have k0 : A 31 0 = B 284 1 := (b 0 h1).1.1
  have t0 : A 32 0 = B 284 13 := (b 0 h1).2.1
  refine ⟨⟨?_, rTake_0, by omega⟩, fun i hi => ?_, fun e he => ?_, ⟨?_, ?_, ?_, ?_⟩, ?_, rTake_44 e3, by omega, fun i q hi hq => ?_⟩
  · show mTake A 30 j r 30 0 = _
    rw [mT_3 (by omega), mT3_0]
    have : A 30 0 = (L : Int) := a1
    omega
  · have hbi := b (i + 1) (by omega)
    have x1 : mTake A 30 j r 31 i = A 31 (i + 1) := (mT_3 (by omega)).trans (mT3_k (by omega))
    have x2 : mTake A 30 j r 32 i = A 32 (i + 1) := (mT_3 (by omega)).trans (mT3_t (by omega))
    show (mTake A 30 j r 31 i = _ ∧ 0 ≤ mTake A 30 j r 31 i ∧ mTake A 30 j r 31 i ≤ 4) ∧ mTake A 30 j r 32 i = _ ∧ 0 ≤ mTake A 30 j r 32 i ∧ mTake A 30 j r 32 i ≤ 20
    rw [x1, x2, rTake_k hjj a3 hi, rTake_t hjj a3 hi]
    exact hbi
  · have ge := g e he
    refine ⟨?_, ?_, ?_⟩
    · show mTake A 30 j r 33 e = _
      rw [mT_3 (by omega), mT3_2 (by omega), mT2_got, rTake_2 (by omega), rT2_got hjj he]
      refine gotV_congr (fun i hi => (g i hi).1) hj he (by rw [k0, t0]) ?_ d4
      rw [k0, show A 30 11 = B 284 28 from d4]
    · show mTake A 30 j r 34 e = _
      rw [mT_3 (by omega), mT3_2 (by omega), mT2_tears, rTake_2 (by omega), rT2_tears hjj he, k0, t0, hr, show A 34 j = B 284 (j + 34) from (g j hj).2.1, show A 34 e = B 284 (e + 34) from ge.2.1]
    · show mTake A 30 j r 35 e = _
      rw [mT_3 (by omega), mT3_2 (by omega), mT2_pl, rTake_2 (by omega), rT2_pl hjj he, show A 35 j = B 284 (j + 39) from (g j hj).2.2, show A 35 e = B 284 (e + 39) from ge.2.2]
  · show mTake A 30 j r 30 8 = _
    rw [mT_3 (by omega), mT3_2 (by omega), mT2_out (by omega), rTake_s hjj (by omega)]
    exact d1
  · show mTake A 30 j r 30 9 = _
    rw [mT_3 (by omega), mT3_2 (by omega), mT2_out (by omega), rTake_s hjj (by omega)]
    exact d2
  · show _ = if mTake A 30 j r 30 10 = 0 then 0 else mid
    rw [mT_10, rTake_27 hjj, show A 30 0 = (L : Int) from a1]
    by_cases hL : L = 1
    · rw [if_pos (show L - 1 = 0 by omega), if_pos (show (L : Int) = 1 by omega), if_neg (by decide)]
      exact hm.symm
    · rw [if_neg (show ¬ L - 1 = 0 by omega), if_neg (show ¬ (L : Int) = 1 by omega)]
      exact d3
  · show mTake A 30 j r 30 11 = _
    rw [mT_3 (by omega), mT3_11, rTake_28]
  · show mTake A 30 j r 30 7 = _
    rw [mT_3 (by omega), mT3_7, show A 30 7 = (n : Int) from e1]
    omega
  · show mTake A 30 j r 36 (i * 4 + q) = _
    rw [mT_3 (by omega)]
    by_cases h0 : i = 0
    · subst h0
      rw [show 0 * 4 + q = q by omega, mT3_L0 hq, show min 20 (n + 1) - 1 - 0 = min 20 (n + 1) - 1 by omega, rTake_L0 hjj e3 hq, k0, t0, show A 30 8 = B 284 25 from d1]
    · rw [mT3_L (by omega) hq, rTake_L hjj e3 hq (by omega) hi]
      exact e4 (i - 1) q (by omega) hq
theorem Bd.take {j : Nat} {r : Int} (hb : Bd A 30 U) (hj : j < 5) (hk : 0 ≤ A 32 0 ∧ A 32 0 ≤ 20) (hr : 0 ≤ r) (hU : U < 1000000) : Bd (mTake A 30 j r) 30 (U + 1) := by
  obtain ⟨b1, b2, b3, b4, b5, b6, b7, b8, b9⟩ := hb
  have hw := (worth_in (c := A 31 0) hk.1).1
  have hs := (sting_in (c := A 31 0) hk.1).1
  refine ⟨fun e he => ?_, fun e he => ?_, fun e he => ?_, ?_, ?_, ?_, ?_, ?_, by omega⟩
  · show 0 ≤ mTake A 30 j r 33 e ∧ mTake A 30 j r 33 e ≤ 9999
    rw [mT_3 (by omega), mT3_2 (by omega), mT2_got]
    exact gotV_in b1 hj he hw
  · show 0 ≤ mTake A 30 j r 34 e ∧ mTake A 30 j r 34 e ≤ 9999
    rw [mT_3 (by omega), mT3_2 (by omega), mT2_tears]
    have h1 : 0 ≤ A 34 j ∧ A 34 j ≤ 9999 := b2 j hj
    have h2 : 0 ≤ A 34 e ∧ A 34 e ≤ 9999 := b2 e he
    split <;> omega
  · show 0 ≤ mTake A 30 j r 35 e ∧ mTake A 30 j r 35 e ≤ ((U + 1 : Nat) : Int)
    rw [mT_3 (by omega), mT3_2 (by omega), mT2_pl]
    have h1 : 0 ≤ A 35 j ∧ A 35 j ≤ (U : Int) := b3 j hj
    have h2 : 0 ≤ A 35 e ∧ A 35 e ≤ (U : Int) := b3 e he
    split <;> omega
  · rw [mT_3 (by omega), mT3_7]
    omega
  · rw [mT_3 (by omega), mT3_2 (by omega), mT2_out (by omega)]
    omega
  · rw [mT_3 (by omega), mT3_11]
    omega
  · rw [mT_3 (by omega), mT3_2 (by omega), mT2_out (by omega)]
    exact b7
  · rw [mT_10]
    split
    · exact Or.inr rfl
    · exact b8
/-- PEELED: both -/
theorem RelP.take {j : Nat} (h : RelP A B w U E T lt L n x c) (h1 : 1 ≤ L) (hj : j < E) (hU : U < 100000) : RelP (mTake A 30 j (A (w + 3) j)) (rTake B j n L) w (U + 1) E T lt (L - 1) (min 20 (n + 1)) x c := by
  have hca := h.ca
  have hj5 : j < 5 := by have := hca.2.1.2.2; omega
  have hc := hca.2.2.1 j hj
  have h0 : A w 0 = 1 := by
    rcases hca.1.1 with q | q
    · have := hca.1.2.2.2 q
      omega
    · exact q
  have hon := h.on
  have h28 : B 284 28 ≤ 4 := by rw [← hon.2.2.2.1.2.2.2]; exact h.bd.1.2.2.2.2.2.1.2
  refine h.onion (fun y i h1 h2 => mT_out h2) (fun y i h1 h2 => rTake_out ⟨hj5, h28⟩ h2) (hon.take h.bd.1 h1 hj5 hc.1.1 (hca.1.2.2.1 h0).symm) (by omega) (by omega) (h.bd.1.take hj5 (hon.2.1 0 h1).2.2 hc.1.2.1 (by omega))
end Take
