/-! ===== pairs: what is done ===== -/
section Sides
variable {A B A' B' : inm} {w U E T : Nat} {lt : Nat → Nat} {L n x c : Nat}
/-- the class has gone on: the reference's cells are as they were -/
theorem RelP.right (h : RelP A B w U E T lt L n x c) (hB : ∀ y j, 279 ≤ y → B' y j = B y j) : RelP A B' w U E T lt L n x c := h.of (fun _ _ _ _ => rfl) (fun y j q _ => hB y j q)
/-- the reference has gone on: the class's cells are as they were -/
theorem RelP.left (h : RelP A B w U E T lt L n x c) (hA : ∀ y j, y < 279 → B y j = A y j) : RelP B B w U E T lt L n x c := h.of (fun y j q _ => hA y j q) (fun _ _ _ _ => rfl)
theorem RelP.b28 (h : RelP A B w U E T lt L n x c) : B 284 28 ≤ 4 := h.rb.2.2.2.2.2.2.1.2
end Sides
theorem mDraw_out {A : inm} {w E y j : Nat} (h : y < 30 ∨ (36 < y ∧ y ≠ 278)) : mDraw A w E y j = A y j := by
  unfold mDraw
  have e1 : ∀ z, up2 A 278 0 z y j = A y j := fun z => up2_ne (by omega)
  have e2 : ∀ z z', up2 (up2 A 278 0 z) 278 0 z' y j = A y j := fun z z' => (up2_ne (by omega)).trans (up2_ne (by omega))
  split
  · split
    · exact (mT_out (by omega)).trans (e2 _ _)
    · exact e2 _ _
  · split
    · split
      · exact (mThick_out (by omega)).trans (e1 _)
      · exact e1 _
    · split
      · exact (up2_ne (by omega)).trans (e1 _)
      · exact e1 _
theorem rDraw_out {B : inm} {E n L y j : Nat} (hE : 1 ≤ E ∧ E ≤ 5) (h28 : B 284 28 ≤ 4) (hL : L ≤ 12) (h : y < 279) : rDraw B E n L y j = B y j := by
  unfold rDraw
  have e1 : ∀ z, up2 B 279 9 z y j = B y j := fun z => up2_ne (by omega)
  have e2 : ∀ z z', up2 (up2 B 279 9 z) 279 9 z' y j = B y j := fun z z' => (up2_ne (by omega)).trans (up2_ne (by omega))
  split
  · split
    · refine (rTake_out ⟨?_, ?_⟩ (by omega)).trans (e2 _ _)
      · have h1 := Int.emod_nonneg (drawR (drawR (B 279 9)) / 65536) (b := (E : Int)) (by omega)
        have h2 := Int.emod_lt_of_pos (drawR (drawR (B 279 9)) / 65536) (b := (E : Int)) (by omega)
        omega
      · rw [up2_ne (by omega), up2_ne (by omega)]
        exact h28
    · exact e2 _ _
  · split
    · exact (rGrow_out (by omega) hL).trans (e1 _)
    · split
      · exact (up2_ne (by omega)).trans (e1 _)
      · exact e1 _
def itr (f : inm → inm) : Nat → inm → inm
  | 0, A => A
  | k + 1, A => f (itr f k A)
/-- a year of the class, out of its memory alone -/
def yCl (w : Nat) (A : inm) : inm := mYear (mRem A (A 37 1).toNat (A 37 2).toNat) 30 w (A 30 0).toNat (A w 3).toNat
def dCr (w : Nat) (A : inm) : inm := if (A w 3).toNat = 0 then mRem A (A 37 1).toNat (A 37 2).toNat else mDraw (mRem A (A 37 1).toNat (A 37 2).toNat) w (A w 3).toNat
def dCl (w : Nat) (A : inm) : inm := mYear (dCr w A) 30 w (dCr w A 30 0).toNat (A w 3).toNat
theorem dCl_is {w L E : Nat} {A : inm} (h1 : dCr w A 30 0 = (L : Int)) (h2 : A w 3 = (E : Int)) : dCl w A = mYear (dCr w A) 30 w L E := by
  unfold dCl
  rw [h1, h2]
  rfl
section Deeds2
variable {A B A' B' : inm} {w U E T : Nat} {lt : Nat → Nat} {L n x c : Nat}
theorem RelP.yCl_is (h : RelP A B w U E T lt L n x c) : yCl w A = mYear (mRem A x c) 30 w L E := by
  unfold yCl
  rw [h.xx.1, h.dA.1, h.layA.1, h.eA.1]
  rfl
theorem RelP.dCr_is (h : RelP A B w U E T lt L n x c) : dCr w A = if E = 0 then mRem A x c else mDraw (mRem A x c) w E := by
  unfold dCr
  rw [h.xx.1, h.dA.1, h.eA.1]
  rfl
/-- a drawn deed: both -/
theorem RelP.drawn (h : RelP A B w U E T lt L n x c) (hU : U < 100000) : ∃ L2 n2, RelP (dCr w A) (if E = 0 then rRem B c else rDraw (rRem B c) E n L) w (U + 1) E T lt L2 n2 ((x + 1) % 30) (min 30 (c + 1)) := by
  rw [h.dCr_is]
  by_cases h0 : E = 0
  · rw [if_pos h0, if_pos h0]
    exact ⟨L, n, h.rem.mono (by omega) (by omega)⟩
  · rw [if_neg h0, if_neg h0]
    exact h.rem.chance (by omega) hU
theorem yCl_hi {A : inm} {y j : Nat} (hw : Cs w) (hx : (A 37 1).toNat < 30) (h : 279 ≤ y) : yCl w A y j = A y j := by
  unfold yCl
  exact (mYear_out (by omega)).trans (mRem_out hx (by omega))
end Deeds2
section PairsD
variable {M : inm} {w U : Nat}
theorem pr_feed {a : Int} (h : Rel M M w U) : Pr yX9_feed cX9_feed 2 1 yX10_feed cX10_feed 2 1 [vI a] w U M := by
  obtain ⟨E, T, lt, L, n, x, c, h⟩ := h
  intro Q K
  obtain ⟨⟨m, h1, h2, h3, h4⟩, h5⟩ := h.rd
  refine ok_X9_feed h1 h3 (fun q => K _ _ _ (fun Q2 K2 => ?_)) (fun q1 q2 => K _ _ _ (fun Q2 K2 => ?_)) (fun q1 q2 => K _ _ _ (fun Q2 K2 => ?_))
  · exact ok_X10_feed h2 h3 (fun _ => K2 _ _ _ h.any (by omega)) (fun q1 => absurd q1 q) (fun q1 => absurd q1 q)
  · have hi : ∀ y j, 279 ≤ y → mFeed M m a y j = M y j := fun y j hy => (up2_ne (by omega)).trans (up2_ne (by omega))
    have hm := h.right hi
    refine ok_X10_feed ((hi _ _ (by omega)).trans h2) h3 (fun q => absurd q1 q) (fun _ _ => ?_) (fun _ q => absurd q (by omega))
    exact K2 _ _ _ ((hm.feed h1 q2 q1).left (fun y j hy => (up2_ne (by omega)).trans (up2_ne (by omega)))).any (by omega)
  · exact ok_X10_feed h2 h3 (fun q => absurd q1 q) (fun _ q => absurd q (by omega)) (fun _ _ => K2 _ _ _ h.any (by omega))
theorem pr_seed {a : Int} (h : Rel M M w U) (ha : a ≤ 2147483647) : Pr yX9_seed cX9_seed 3 0 yX10_seed cX10_seed 3 0 [vI a] w U M := by
  obtain ⟨E, T, lt, L, n, x, c, h⟩ := h
  intro Q K
  refine ok_X9_seed (fun q => K _ _ _ (fun Q2 K2 => ?_)) (fun q => K _ _ _ (fun Q2 K2 => ?_))
  · exact ok_X10_seed (fun _ => K2 _ _ _ h.any (by omega)) (fun q1 => absurd q1 (by omega))
  · have hi : ∀ y j, 279 ≤ y → up2 M 278 0 a y j = M y j := fun y j hy => up2_ne (by omega)
    have hm := h.right hi
    refine ok_X10_seed (fun q1 => absurd q1 (by omega)) (fun _ => q_eq ?_ (K2 _ _ _ ((hm.draw ⟨q, ha⟩).left (fun y j hy => up2_ne (by omega))).any (by omega)))
    rw [hi _ _ (by omega)]
    exact h.dr.1.symm
theorem pr_tear (h : Rel M M w U) : Pr yX9_tear cX9_tear 2 0 yX10_tear cX10_tear 2 0 [] w U M := by
  obtain ⟨E, T, lt, L, n, x, c, h⟩ := h
  intro Q K
  obtain ⟨g, g1, g2, g3, -⟩ := h.gu
  obtain ⟨d, d1, d2, d3, -⟩ := h.bo
  refine ok_X9_tear g1 g3 d1 d3 (K _ _ _ (fun Q2 K2 => ?_))
  have hi : ∀ y j, 279 ≤ y → up2 (up2 M 266 3 0) 270 2 0 y j = M y j := fun y j hy => (up2_ne (by omega)).trans (up2_ne (by omega))
  have hm := h.right hi
  exact ok_X10_tear ((hi _ _ (by omega)).trans g2) g3 ((hi _ _ (by omega)).trans d2) d3 (K2 _ _ _ (hm.tear.left (fun y j hy => (up2_ne (by omega)).trans (up2_ne (by omega)))).any (by omega))
theorem pr_guess {k a b : Int} (h : Rel M M w U) (hb : b = 0 ∨ b = 1) : Pr yX9_guess cX9_guess 4 1 yX10_guess cX10_guess 4 1 [vI k, vI a, vI b] w U M := by
  obtain ⟨E, T, lt, L, n, x, c, h⟩ := h
  intro Q K
  obtain ⟨g, g1, g2, g3, -⟩ := h.gu
  refine ok_X9_guess hb g1 g3 (fun q => K _ _ _ (fun Q2 K2 => ?_)) (fun q1 q2 => K _ _ _ (fun Q2 K2 => ?_)) (fun q1 q2 => K _ _ _ (fun Q2 K2 => ?_))
  · exact ok_X10_guess hb g2 g3 (fun _ => K2 _ _ _ h.any (by omega)) (fun q1 => absurd q1 q) (fun q1 => absurd q1 q)
  · have hi : ∀ y j, 279 ≤ y → mGuess M g k a b y j = M y j := fun y j hy => (up2_ne (by omega)).trans ((up2_ne (by omega)).trans ((up2_ne (by omega)).trans (up2_ne (by omega))))
    have hm := h.right hi
    refine ok_X10_guess hb ((hi _ _ (by omega)).trans g2) g3 (fun q => absurd q1 q) (fun _ _ => ?_) (fun _ q => absurd q (by omega))
    exact K2 _ _ _ ((hm.guess g1 q2 ⟨q1.1, q1.2.1⟩ hb).left (fun y j hy => (up2_ne (by omega)).trans ((up2_ne (by omega)).trans ((up2_ne (by omega)).trans (up2_ne (by omega)))))).any (by omega)
  · exact ok_X10_guess hb g2 g3 (fun q => absurd q1 q) (fun _ q => absurd q (by omega)) (fun _ _ => K2 _ _ _ h.any (by omega))
theorem pr_write {k a : Int} (h : Rel M M w U) : Pr yX9_write cX9_write 3 1 yX10_write cX10_write 3 2 [vI k, vI a] w U M := by
  obtain ⟨E, T, lt, L, n, x, c, h⟩ := h
  intro Q K
  have hE5 := h.eA.2
  obtain ⟨g, g1, g2, g3, -⟩ := h.bo
  by_cases hk : 0 ≤ k ∧ k < (E : Int)
  · obtain ⟨j, rfl⟩ : ∃ j : Nat, k = (j : Int) := ⟨k.toNat, by omega⟩
    have hj : j < E := by omega
    refine ok_X9_write_in (k := 0) h.cs h.eA hj g1 g3 (fun q => K _ _ _ (fun Q2 K2 => ?_)) (fun q1 q2 => K _ _ _ (fun Q2 K2 => ?_)) (fun q1 q2 => K _ _ _ (fun Q2 K2 => ?_))
    · exact ok_X10_write_in (k := 0) h.eB hj g2 g3 (fun _ => K2 _ _ _ h.any (by omega)) (fun q1 => absurd q1 q) (fun q1 => absurd q1 q)
    · have hi : ∀ y j1, 279 ≤ y → mBook M g (j : Int) a y j1 = M y j1 := fun y j1 hy => (up2_ne (by omega)).trans ((up2_ne (by omega)).trans (up2_ne (by omega)))
      have hm := h.right hi
      refine ok_X10_write_in (k := 0) hm.eB hj ((hi _ _ (by omega)).trans g2) g3 (fun q => absurd q1 q) (fun _ _ => ?_) (fun _ q => absurd q (by omega))
      exact K2 _ _ _ ((hm.book g1 q2 (by omega)).left (fun y j1 hy => (up2_ne (by omega)).trans ((up2_ne (by omega)).trans (up2_ne (by omega))))).any (by omega)
    · exact ok_X10_write_in (k := 0) h.eB hj g2 g3 (fun q => absurd q1 q) (fun _ q => absurd q (by omega)) (fun _ _ => K2 _ _ _ h.any (by omega))
  · exact ok_X9_write_out (c := 0) (j := 0) h.cs h.eA hk (K _ _ _ (fun Q2 K2 => ok_X10_write_out h.eB hk (K2 _ _ _ h.any (by omega))))
theorem pr_peel {k : Int} (h : Rel M M w U) (hU : U ≤ 50000) : Pr yX9_peel cX9_peel 2 3 yX10_peel cX10_peel 2 3 [vI k] w U M := by
  obtain ⟨E, T, lt, L, n, x, c, h⟩ := h
  intro Q K
  have hw := kdw h.cs
  by_cases hk : 0 ≤ k ∧ k < (E : Int)
  · obtain ⟨j, rfl⟩ : ∃ j : Nat, k = (j : Int) := ⟨k.toNat, by omega⟩
    have hj : j < E := by omega
    have hj5 : j < 5 := by have := h.eA.2; omega
    refine ok_X9_peel_in h.cs h.eA h.layA h.bd.1 h.cA h.xx.1 h.xx.2 h.dA.1 h.dA.2 hj (fun q => K _ _ _ (fun Q2 K2 => ?_)) (fun q1 q2 => K _ _ _ (fun Q2 K2 => ?_))
    · exact ok_X10_peel_in h.eB h.dB h.rb h.cB hj (fun _ => K2 _ _ _ h.any (by omega)) (fun q1 q2 => absurd ⟨q1, by rw [← h.y9]; exact q2⟩ q)
    · have hi : ∀ y i, 279 ≤ y → mTake (mRem M x c) 30 j (M (w + 3) j) y i = M y i := fun y i hy => (mT_out (by omega)).trans (mRem_out h.xx.2 (by omega))
      have hm := h.right hi
      refine ok_X10_peel_in hm.eB hm.dB hm.rb hm.cB hj (fun q => absurd ⟨q1, by rw [hm.y9]; exact q2⟩ q) (fun _ _ => ?_)
      have hr := hm.rem.take (j := j) (by omega) hj (by omega)
      rw [show mRem M x c (w + 3) j = M (w + 3) j from mRem_out h.xx.2 (by omega)] at hr
      refine q_eq ?_ (K2 _ _ _ (hr.left (fun y i hy => (rTake_out ⟨hj5, hm.rem.b28⟩ (by omega)).trans (rRem_out (by omega)))).any (by omega))
      exact hm.ww 0 (by omega)
  · exact ok_X9_peel_out h.cs h.eA hk (K _ _ _ (fun Q2 K2 => ok_X10_peel_out h.eB hk (K2 _ _ _ h.any (by omega))))
theorem pr_stop {b : Int} (h : Rel M M w U) (hb : b = 0 ∨ b = 1) : Pr yX9_stop cX9_stop 3 3 yX10_stop cX10_stop 3 1 [vI b] w U M := by
  obtain ⟨E, T, lt, L, n, x, c, h⟩ := h
  intro Q K
  refine ok_X9_stop h.cs h.bd.1 hb h.xx.1 h.xx.2 h.dA.1 h.dA.2 (fun q => K _ _ _ (fun Q2 K2 => ?_)) (fun q => K _ _ _ (fun Q2 K2 => ?_))
  · exact ok_X10_stop h.dB hb (fun _ => K2 _ _ _ h.any (by omega)) (fun q1 => absurd (h.i0.trans q) q1)
  · have hi : ∀ y i, 279 ≤ y → up2 (mRem M x c) 30 9 b y i = M y i := fun y i hy => (up2_ne (by omega)).trans (mRem_out h.xx.2 (by omega))
    have hm := h.right hi
    refine ok_X10_stop hm.dB hb (fun q1 => absurd (hm.i0.symm.trans q1) q) (fun _ => ?_)
    refine q_eq ?_ (K2 _ _ _ ((hm.rem.stop hb).left (fun y i hy => (up2_ne (by omega)).trans (rRem_out (by omega)))).any (by omega))
    rw [hm.y9]
    rcases h.b9 with q1 | q1 <;> rw [q1] <;> rfl
theorem pr_visit (h : Rel M M w U) : Pr yX9_visit cX9_visit 1 3 yX10_visit cX10_visit 1 1 [] w U M := by
  obtain ⟨E, T, lt, L, n, x, c, h⟩ := h
  intro Q K
  refine ok_X9_visit h.layA h.bd.1 h.xx.1 h.xx.2 h.dA.1 h.dA.2 (fun q => K _ _ _ (fun Q2 K2 => ?_)) (fun q => K _ _ _ (fun Q2 K2 => ?_))
  · exact ok_X10_visit h.dB h.layB (fun _ => K2 _ _ _ h.any (by omega)) (fun q1 => absurd q1 (by omega))
  · have hi : ∀ y i, 279 ≤ y → mThick (mRem M x c) 30 y i = M y i := fun y i hy => (mThick_out (by omega)).trans (mRem_out h.xx.2 (by omega))
    have hm := h.right hi
    obtain ⟨L', hL', hr⟩ := hm.rem.grow q
    refine ok_X10_visit hm.dB hm.layB (fun q1 => absurd q1 (by omega)) (fun _ => ?_)
    exact q_eq (hr.tt 0 hL') (K2 _ _ _ (hr.left (fun y i hy => (rGrow_out (by omega) h.L12).trans (rRem_out (by omega)))).any (by omega))
theorem pr_undo {a : Int} (h : Rel M M w U) : Pr yX9_undo cX9_undo 2 3 yX10_undo cX10_undo 3 1 [vI a] w U M := by
  obtain ⟨E, T, lt, L, n, x, c, h⟩ := h
  intro Q K
  by_cases hk : 1 ≤ a ∧ a ≤ (c : Int)
  · obtain ⟨m, rfl⟩ : ∃ m : Nat, a = (m : Int) := ⟨a.toNat, by omega⟩
    have hm1 : 1 ≤ m ∧ m ≤ c := by omega
    refine ok_X9_undo_in h.xx.1 h.xx.2 h.dA.1 h.dA.2 hm1 h.bd.2.1 (K _ _ _ (fun Q2 K2 => ?_))
    have hi : ∀ y i, 279 ≤ y → mBack M x c m y i = M y i := fun y i hy => (mCopy_out (by omega)).trans ((up2_ne (by omega)).trans (up2_ne (by omega)))
    have hm := h.right hi
    obtain ⟨L1, n1, hr⟩ := hm.back hm1
    refine ok_X10_undo_in hm.dB.1 hm.dB.2 hm1 ?_
    exact q_eq hr.y8 (K2 _ _ _ (hr.left (fun y i hy => (cp2_ne (by omega)).trans (up2_ne (by omega)))).any (by omega))
  · refine ok_X9_undo_out h.dA.1 h.dA.2 hk (fun q => K _ _ _ (fun Q2 K2 => ?_)) (fun q1 q2 => K _ _ _ (fun Q2 K2 => ?_))
    · exact ok_X10_undo_out h.dB.1 h.dB.2 hk (fun _ => K2 _ _ _ h.any (by omega)) (fun q1 => absurd q1 q)
    · exact ok_X10_undo_out h.dB.1 h.dB.2 hk (fun q => absurd q1 q) (fun _ _ => K2 _ _ _ h.any (by omega))
theorem pr_keep {a : Int} (h : Rel M M w U) : Pr yX9_keep cX9_keep 2 2 yX10_keep cX10_keep 3 1 [vI a] w U M := by
  obtain ⟨E, T, lt, L, n, x, c, h⟩ := h
  intro Q K
  by_cases hk : 0 ≤ a ∧ a < 2
  · rcases (show a = 0 ∨ a = 1 by omega) with rfl | rfl
    · refine ok_X9_keep_0 h.bd.1 (K _ _ _ (fun Q2 K2 => ?_))
      have hi : ∀ y i, 279 ≤ y → mForget (up2 (mCopy (up2 M 250 0 1) 251 30) 250 2 (M 278 0)) y i = M y i := fun y i hy => (up2_ne (by omega)).trans ((up2_ne (by omega)).trans ((up2_ne (by omega)).trans ((mCopy_out (by omega)).trans (up2_ne (by omega)))))
      have hm := h.right hi
      have hr := hm.keep (i := 0) (by omega)
      refine ok_X10_keep_in (i := 0) (by omega) ?_
      exact K2 _ _ _ (hr.left (fun y i hy => (up2_ne (by omega)).trans ((up2_ne (by omega)).trans ((up2_ne (by omega)).trans (cp2_ne (by omega)))))).any (by omega)
    · refine ok_X9_keep_1 h.bd.1 (K _ _ _ (fun Q2 K2 => ?_))
      have hi : ∀ y i, 279 ≤ y → mForget (up2 (mCopy (up2 M 258 0 1) 259 30) 258 2 (M 278 0)) y i = M y i := fun y i hy => (up2_ne (by omega)).trans ((up2_ne (by omega)).trans ((up2_ne (by omega)).trans ((mCopy_out (by omega)).trans (up2_ne (by omega)))))
      have hm := h.right hi
      have hr := hm.keep (i := 1) (by omega)
      refine ok_X10_keep_in (i := 1) (by omega) ?_
      exact K2 _ _ _ (hr.left (fun y i hy => (up2_ne (by omega)).trans ((up2_ne (by omega)).trans ((up2_ne (by omega)).trans (cp2_ne (by omega)))))).any (by omega)
  · exact ok_X9_keep_out hk (K _ _ _ (fun Q2 K2 => ok_X10_keep_out hk (K2 _ _ _ h.any (by omega))))
theorem pr_goBack {a : Int} (h : Rel M M w U) : Pr yX9_goBack cX9_goBack 2 2 yX10_goBack cX10_goBack 3 1 [vI a] w U M := by
  obtain ⟨E, T, lt, L, n, x, c, h⟩ := h
  intro Q K
  by_cases hk : 0 ≤ a ∧ a < 2
  · rcases (show a = 0 ∨ a = 1 by omega) with rfl | rfl
    · have e0 : M 250 0 = M 302 0 := (h.im 0 (by omega)).1.1
      refine ok_X9_goBack_0 h.bd.2.2.1 (fun q => K _ _ _ (fun Q2 K2 => ?_)) (fun q => K _ _ _ (fun Q2 K2 => ?_))
      · exact ok_X10_goBack_in (i := 0) (by omega) (fun _ => K2 _ _ _ h.any (by omega)) (fun q1 => absurd (e0.symm.trans q) q1)
      · have hi : ∀ y i, 279 ≤ y → mForget (up2 (mCopy M 30 251) 278 0 (M 250 2)) y i = M y i := fun y i hy => (up2_ne (by omega)).trans ((up2_ne (by omega)).trans ((up2_ne (by omega)).trans (mCopy_out (by omega))))
        have hm := h.right hi
        have e1 : ¬ mForget (up2 (mCopy M 30 251) 278 0 (M 250 2)) 302 0 = 0 := fun q1 => q (e0.trans ((hi 302 0 (by omega)).symm.trans q1))
        obtain ⟨L1, n1, hr⟩ := hm.goBack (i := 0) (by omega) e1
        refine ok_X10_goBack_in (i := 0) (by omega) (fun q1 => absurd q1 e1) (fun _ => ?_)
        exact K2 _ _ _ (hr.left (fun y i hy => (up2_ne (by omega)).trans ((up2_ne (by omega)).trans (cp2_ne (by omega))))).any (by omega)
    · have e0 : M 258 0 = M 302 1 := (h.im 1 (by omega)).1.1
      refine ok_X9_goBack_1 h.bd.2.2.2 (fun q => K _ _ _ (fun Q2 K2 => ?_)) (fun q => K _ _ _ (fun Q2 K2 => ?_))
      · exact ok_X10_goBack_in (i := 1) (by omega) (fun _ => K2 _ _ _ h.any (by omega)) (fun q1 => absurd (e0.symm.trans q) q1)
      · have hi : ∀ y i, 279 ≤ y → mForget (up2 (mCopy M 30 259) 278 0 (M 258 2)) y i = M y i := fun y i hy => (up2_ne (by omega)).trans ((up2_ne (by omega)).trans ((up2_ne (by omega)).trans (mCopy_out (by omega))))
        have hm := h.right hi
        have e1 : ¬ mForget (up2 (mCopy M 30 259) 278 0 (M 258 2)) 302 1 = 0 := fun q1 => q (e0.trans ((hi 302 1 (by omega)).symm.trans q1))
        obtain ⟨L1, n1, hr⟩ := hm.goBack (i := 1) (by omega) e1
        refine ok_X10_goBack_in (i := 1) (by omega) (fun q1 => absurd q1 e1) (fun _ => ?_)
        exact K2 _ _ _ (hr.left (fun y i hy => (up2_ne (by omega)).trans ((up2_ne (by omega)).trans (cp2_ne (by omega))))).any (by omega)
  · exact ok_X9_goBack_out hk (K _ _ _ (fun Q2 K2 => ok_X10_goBack_out hk (K2 _ _ _ h.any (by omega))))
theorem pr_year {a : Int} (h : Rel M M w U) (hU : U ≤ 50000) : Pr yX9_year cX9_year 4 3 yX10_year cX10_year 4 2 [vI a] w U M := by
  obtain ⟨E0, T0, lt0, L0, n0, x0, c0, h⟩ := h
  intro Q K
  by_cases hk : (1 ≤ a ∧ a ≤ 30) ∧ ¬ M w 0 = 0 ∧ ¬ 9000 < M 30 8
  · obtain ⟨m, rfl⟩ : ∃ m : Nat, a = (m : Int) := ⟨a.toNat, by omega⟩
    have hm : 1 ≤ m ∧ m ≤ 30 := by omega
    refine ok_X9_year_in h.cs hm hk.2.1 hk.2.2 (fun k A => A = itr (yCl w) k M ∧ (∀ y j, 279 ≤ y → A y j = M y j) ∧ ∃ B, Rel A B w (U + k)) (fun k A hkm hI => ?_) (fun A hI => ?_) ⟨rfl, fun _ _ _ => rfl, M, h.any⟩
    · obtain ⟨rfl, i2, B, E, T, lt, L, n, x, c, hr⟩ := hI
      refine ⟨x, c, L, E, U + k, hr.yp, ?_, fun y j hy => ?_, rYear (rRem B c) L E, ?_⟩
      · exact hr.yCl_is.symm
      · exact (mYear_out (by omega)).trans ((mRem_out hr.xx.2 (by omega)).trans (i2 y j hy))
      · exact (hr.rem.year (by omega)).any
    · obtain ⟨rfl, i2, B, hr⟩ := hI
      refine K _ _ _ (fun Q2 K2 => ?_)
      have hM := h.right i2
      refine ok_X10_year_in hm (by rw [hM.i0]; exact hk.2.1) (by rw [hM.y8]; exact hk.2.2) (fun k B => (∀ y j, y < 279 → B y j = itr (yCl w) m M y j) ∧ Rel (itr (yCl w) k M) B w (U + k)) (fun k B hkm hJ => ?_) (fun B hJ => ?_) ⟨fun _ _ _ => rfl, hM.any⟩
      · obtain ⟨j1, E, T, lt, L, n, x, c, hs⟩ := hJ
        refine ⟨c, L, n, U + k, E, hs.dB, hs.rqy, fun y j hy => ?_, ?_⟩
        · exact (rYear_out hs.L12 hs.eA.2 (by omega)).trans ((rRem_out (by omega)).trans (j1 y j hy))
        · have e : itr (yCl w) (k + 1) M = mYear (mRem (itr (yCl w) k M) x c) 30 w L E := hs.yCl_is
          rw [e]
          exact (hs.rem.year (by omega)).any
      · obtain ⟨j1, E, T, lt, L, n, x, c, hs⟩ := hJ
        exact q_eq hs.y8 (K2 _ _ _ (hs.left j1).any (by omega))
  · refine ok_X9_year_out h.cs hk (fun q => K _ _ _ (fun Q2 K2 => ?_)) (fun q1 q2 => K _ _ _ (fun Q2 K2 => ?_)) (fun q1 q2 q3 => K _ _ _ (fun Q2 K2 => ?_))
    · exact ok_X10_year_out (by rw [h.i0, h.y8]; exact hk) (fun _ => K2 _ _ _ h.any (by omega)) (fun q1 => absurd q1 q) (fun q1 => absurd q1 q)
    · exact ok_X10_year_out (by rw [h.i0, h.y8]; exact hk) (fun q => absurd q1 q) (fun _ _ => K2 _ _ _ h.any (by omega)) (fun _ q => absurd (h.i0.trans q2) q)
    · exact ok_X10_year_out (by rw [h.i0, h.y8]; exact hk) (fun q => absurd q1 q) (fun _ q => absurd (h.i0.symm.trans q) q2) (fun _ _ _ => K2 _ _ _ h.any (by omega))
theorem pr_drift {a : Int} (h : Rel M M w U) (hU : U ≤ 50000) : Pr yX9_drift cX9_drift 4 4 yX10_drift cX10_drift 4 4 [vI a] w U M := by
  obtain ⟨E0, T0, lt0, L0, n0, x0, c0, h⟩ := h
  intro Q K
  by_cases hk : (1 ≤ a ∧ a ≤ 30) ∧ ¬ M w 0 = 0 ∧ ¬ 9000 < M 30 8
  · obtain ⟨m, rfl⟩ : ∃ m : Nat, a = (m : Int) := ⟨a.toNat, by omega⟩
    have hm : 1 ≤ m ∧ m ≤ 30 := by omega
    refine ok_X9_drift_in h.cs hm hk.2.1 hk.2.2 (fun k A => A = itr (dCl w) k M ∧ (∀ y j, 279 ≤ y → A y j = M y j) ∧ ∃ B, Rel A B w (U + 2 * k)) (fun k A hkm hI => ?_) (fun A hI => ?_) ⟨rfl, fun _ _ _ => rfl, M, h.any⟩
    · obtain ⟨rfl, i2, B, E, T, lt, L, n, x, c, hr⟩ := hI
      obtain ⟨L2, n2, hd⟩ := hr.drawn (by omega)
      have hx : ∀ y j, y < 30 ∨ (248 < y ∧ y ≠ 278) → dCr w (itr (dCl w) k M) y j = itr (dCl w) k M y j := fun y j hy => by
        rw [hr.dCr_is]
        by_cases h0 : E = 0
        · rw [if_pos h0]
          exact mRem_out hr.xx.2 (by omega)
        · rw [if_neg h0]
          exact (mDraw_out (by omega)).trans (mRem_out hr.xx.2 (by omega))
      have hy := hd.year (by omega)
      have e : itr (dCl w) (k + 1) M = mYear (dCr w (itr (dCl w) k M)) 30 w L2 E := dCl_is hd.layA.1 hr.eA.1
      refine ⟨x, c, L, E, U + 2 * k, L2, hr.yp, ?_⟩
      rw [← hr.dCr_is]
      refine ⟨hd.layA, hd.bd.1, fun y j hy => hx y j (by omega), e.symm, fun y j hy => ?_, rYear (if E = 0 then rRem B c else rDraw (rRem B c) E n L) L2 E, ?_⟩
      · exact (mYear_out (by omega)).trans ((hx y j (by omega)).trans (i2 y j hy))
      · rw [show U + 2 * (k + 1) = U + 2 * k + 1 + 1 by omega]
        exact hy.any
    · obtain ⟨rfl, i2, B, hr⟩ := hI
      refine K _ _ _ (fun Q2 K2 => ?_)
      have hM := h.right i2
      refine ok_X10_drift_in hm (by rw [hM.i0]; exact hk.2.1) (by rw [hM.y8]; exact hk.2.2) (fun k B => (∀ y j, y < 279 → B y j = itr (dCl w) m M y j) ∧ Rel (itr (dCl w) k M) B w (U + 2 * k)) (fun k B hkm hJ => ?_) (fun B hJ => ?_) ⟨fun _ _ _ => rfl, hM.any⟩
      · obtain ⟨j1, E, T, lt, L, n, x, c, hs⟩ := hJ
        obtain ⟨L2, n2, hd⟩ := hs.drawn (by omega)
        have hy := hd.year (by omega)
        have e : itr (dCl w) (k + 1) M = mYear (dCr w (itr (dCl w) k M)) 30 w L2 E := dCl_is hd.layA.1 hs.eA.1
        refine ⟨c, L, n, U + 2 * k, E, L2, n2, hs.dB, hs.rqy, hs.cB, by rw [← hs.dr.1]; exact hs.dr.2, hd.rqy, fun y j hy => ?_, ?_⟩
        · refine (rYear_out hd.L12 hs.eA.2 (by omega)).trans ?_
          by_cases h0 : E = 0
          · rw [if_pos h0]
            exact (rRem_out (by omega)).trans (j1 y j hy)
          · rw [if_neg h0]
            exact (rDraw_out (by have := hs.eA.2; omega) hs.rem.b28 hs.L12 hy).trans ((rRem_out (by omega)).trans (j1 y j hy))
        · rw [e, show U + 2 * (k + 1) = U + 2 * k + 1 + 1 by omega]
          exact hy.any
      · obtain ⟨j1, E, T, lt, L, n, x, c, hs⟩ := hJ
        exact q_eq hs.y8 (K2 _ _ _ (hs.left j1).any (by omega))
  · refine ok_X9_drift_out h.cs hk (fun q => K _ _ _ (fun Q2 K2 => ?_)) (fun q1 q2 => K _ _ _ (fun Q2 K2 => ?_)) (fun q1 q2 q3 => K _ _ _ (fun Q2 K2 => ?_))
    · exact ok_X10_drift_out (by rw [h.i0, h.y8]; exact hk) (fun _ => K2 _ _ _ h.any (by omega)) (fun q1 => absurd q1 q) (fun q1 => absurd q1 q)
    · exact ok_X10_drift_out (by rw [h.i0, h.y8]; exact hk) (fun q => absurd q1 q) (fun _ _ => K2 _ _ _ h.any (by omega)) (fun _ q => absurd (h.i0.trans q2) q)
    · exact ok_X10_drift_out (by rw [h.i0, h.y8]; exact hk) (fun q => absurd q1 q) (fun _ q => absurd (h.i0.symm.trans q) q2) (fun _ _ _ => K2 _ _ _ h.any (by omega))
end PairsD
