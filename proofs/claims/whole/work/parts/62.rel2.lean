/-! ===== deeds keep the relation: copy, remember, back ===== -/
theorem mCopy_at {M : inm} {a b i j : Nat} (ha : On a) (hb : On b) (hab : a ≠ b) (h : Cnt i j) : mCopy M b a (b + i) j = M (a + i) j := by
  have hap := On.apart ha hb hab
  unfold Cnt at h
  unfold mCopy
  have hi : i = 0 ∨ i = 1 ∨ i = 2 ∨ i = 3 ∨ i = 4 ∨ i = 5 ∨ i = 6 := by omega
  rcases hi with rfl | rfl | rfl | rfl | rfl | rfl | rfl
  · have hj : j = 0 ∨ j = 7 ∨ j = 8 ∨ j = 9 ∨ j = 10 ∨ j = 11 := by omega
    show _ = M a j
    rcases hj with rfl | rfl | rfl | rfl | rfl | rfl
    all_goals repeat (first | (with_reducible rfl) | (refine up2_same.trans ?_) | (refine (up2_ne (by omega)).trans ?_) | (refine (cp2_ne (by omega)).trans ?_) | (refine (cp2_in (by omega) (by omega)).trans ?_) | (refine (cp2_out (by omega)).trans ?_) | (refine (ov_in (by omega)).trans ?_) | (refine (ov_out (by omega)).trans ?_) | (refine (ovo_in (by omega) (by omega)).trans ?_) | (refine (ovo_out (by omega)).trans ?_))
  · repeat (first | (with_reducible rfl) | (refine up2_same.trans ?_) | (refine (up2_ne (by omega)).trans ?_) | (refine (cp2_ne (by omega)).trans ?_) | (refine (cp2_in (by omega) (by omega)).trans ?_) | (refine (cp2_out (by omega)).trans ?_) | (refine (ov_in (by omega)).trans ?_) | (refine (ov_out (by omega)).trans ?_) | (refine (ovo_in (by omega) (by omega)).trans ?_) | (refine (ovo_out (by omega)).trans ?_))
    exact congrArg (M _) (by omega)
  · repeat (first | (with_reducible rfl) | (refine up2_same.trans ?_) | (refine (up2_ne (by omega)).trans ?_) | (refine (cp2_ne (by omega)).trans ?_) | (refine (cp2_in (by omega) (by omega)).trans ?_) | (refine (cp2_out (by omega)).trans ?_) | (refine (ov_in (by omega)).trans ?_) | (refine (ov_out (by omega)).trans ?_) | (refine (ovo_in (by omega) (by omega)).trans ?_) | (refine (ovo_out (by omega)).trans ?_))
    exact congrArg (M _) (by omega)
  · repeat (first | (with_reducible rfl) | (refine up2_same.trans ?_) | (refine (up2_ne (by omega)).trans ?_) | (refine (cp2_ne (by omega)).trans ?_) | (refine (cp2_in (by omega) (by omega)).trans ?_) | (refine (cp2_out (by omega)).trans ?_) | (refine (ov_in (by omega)).trans ?_) | (refine (ov_out (by omega)).trans ?_) | (refine (ovo_in (by omega) (by omega)).trans ?_) | (refine (ovo_out (by omega)).trans ?_))
    exact congrArg (M _) (by omega)
  · repeat (first | (with_reducible rfl) | (refine up2_same.trans ?_) | (refine (up2_ne (by omega)).trans ?_) | (refine (cp2_ne (by omega)).trans ?_) | (refine (cp2_in (by omega) (by omega)).trans ?_) | (refine (cp2_out (by omega)).trans ?_) | (refine (ov_in (by omega)).trans ?_) | (refine (ov_out (by omega)).trans ?_) | (refine (ovo_in (by omega) (by omega)).trans ?_) | (refine (ovo_out (by omega)).trans ?_))
    exact congrArg (M _) (by omega)
  · repeat (first | (with_reducible rfl) | (refine up2_same.trans ?_) | (refine (up2_ne (by omega)).trans ?_) | (refine (cp2_ne (by omega)).trans ?_) | (refine (cp2_in (by omega) (by omega)).trans ?_) | (refine (cp2_out (by omega)).trans ?_) | (refine (ov_in (by omega)).trans ?_) | (refine (ov_out (by omega)).trans ?_) | (refine (ovo_in (by omega) (by omega)).trans ?_) | (refine (ovo_out (by omega)).trans ?_))
    exact congrArg (M _) (by omega)
  · repeat (first | (with_reducible rfl) | (refine up2_same.trans ?_) | (refine (up2_ne (by omega)).trans ?_) | (refine (cp2_ne (by omega)).trans ?_) | (refine (cp2_in (by omega) (by omega)).trans ?_) | (refine (cp2_out (by omega)).trans ?_) | (refine (ov_in (by omega)).trans ?_) | (refine (ov_out (by omega)).trans ?_) | (refine (ovo_in (by omega) (by omega)).trans ?_) | (refine (ovo_out (by omega)).trans ?_))
    exact congrArg (M _) (by omega)
theorem mRem_at {A : inm} {x c i j : Nat} (hx : x < 30) (h : Cnt i j) : mRem A x c (39 + 7 * x + i) j = A (30 + i) j := by
  unfold mRem
  refine (up2_ne (by omega)).trans ((up2_ne (by omega)).trans ?_)
  exact mCopy_at On_30 (On_bef hx) (by omega) h
theorem mRem_oth {A : inm} {x c y j : Nat} (hx : x < 30) (h : y ≠ 37) (h2 : y < 39 + 7 * x ∨ 39 + 7 * x + 6 < y) : mRem A x c y j = A y j := by
  unfold mRem
  refine (up2_ne (by omega)).trans ((up2_ne (by omega)).trans ?_)
  exact mCopy_out (by omega)
theorem rRem_new {B : inm} {u k : Nat} (hu : u ≤ 30) (hk : k < 125) : rRem B u 297 (125 * (min 30 (u + 1) - 1) + k) = B 284 k := by
  unfold rRem
  by_cases h : u = 30
  · rw [if_pos h, show 125 * (min 30 (u + 1) - 1) + k = 125 * 29 + k by omega]
    refine (up2_ne (by omega)).trans ((cp2_in (by omega) (by omega)).trans ?_)
    refine (up2_ne (by omega)).trans ((cp2_ne (by omega)).trans ?_)
    exact congrArg (B 284) (by omega)
  · rw [if_neg h, show 125 * (min 30 (u + 1) - 1) + k = 125 * u + k by omega]
    refine (up2_ne (by omega)).trans ((cp2_in (by omega) (by omega)).trans ?_)
    exact congrArg (B 284) (by omega)
theorem rRem_old {B : inm} {u i k : Nat} (hu : u ≤ 30) (hk : k < 125) (h2 : 2 ≤ i) (hi : i ≤ min 30 (u + 1)) : rRem B u 297 (125 * (min 30 (u + 1) - i) + k) = B 297 (125 * (u - (i - 1)) + k) := by
  unfold rRem
  by_cases h : u = 30
  · rw [if_pos h]
    refine (up2_ne (by omega)).trans ((cp2_out (by omega)).trans ?_)
    refine (up2_ne (by omega)).trans ((cp2_in (by omega) (by omega)).trans ?_)
    exact congrArg (B 297) (by omega)
  · rw [if_neg h]
    refine (up2_ne (by omega)).trans ((cp2_out (by omega)).trans ?_)
    exact congrArg (B 297) (by omega)
theorem rRem_cnt {B : inm} {u : Nat} (hu : u ≤ 30) : rRem B u 279 33 = ((min 30 (u + 1) : Nat) : Int) := by
  unfold rRem
  by_cases h : u = 30
  · rw [if_pos h, up2_same]
    omega
  · rw [if_neg h, up2_same]
    omega
section Deeds
variable {A B A' B' : inm} {w U E T : Nat} {lt : Nat → Nat} {L n x c : Nat}
theorem RelP.rem (h : RelP A B w U E T lt L n x c) : RelP (mRem A x c) (rRem B c) w U E T lt L n ((x + 1) % 30) (min 30 (c + 1)) := by
  have hw := kdw h.cs
  have hx : x < 30 := h.de.1.2
  have hc : c ≤ 30 := h.de.2.1.2.2
  have hA : ∀ y j, y < 37 ∨ 248 < y → mRem A x c y j = A y j := fun y j hy => mRem_out hx hy
  have hB : ∀ y j, (y ≠ 279 ∨ j ≠ 33) → y ≠ 297 → rRem B c y j = B y j := fun y j h1 h2 => rRem_out ⟨h1, h2⟩
  have e : mRem A x c w 1 = A w 1 := hA _ _ (by omega)
  unfold RelP
  rw [e]
  refine ⟨h.cs, h.u, h.rd.of (fun x j _ _ => hA x j (by omega)) (fun x j _ => hB x j (by omega) (by omega)), h.ca.of (fun x j _ _ => hA x j (by omega)) (fun x j _ => hB x j (by omega) (by omega)), h.on.of (fun i j q => hA _ _ (by unfold Cnt at q; omega)) (fun k _ => hB _ _ (by omega) (by omega)), ?_, ?_, h.im.of (fun x j _ _ => hA x j (by omega)) (fun x j _ => hB x j (by omega) (by omega)), h.gu.of (fun x j _ _ => hA x j (by omega)) (fun x j _ => hB x j (by omega) (by omega)), h.bo.of (fun x j _ _ => hA x j (by omega)) (fun x j _ => hB x j (by omega) (by omega)), h.dr.of (fun x j _ => hA x j (by omega)) (fun x j _ => hB x j (by omega) (by omega))⟩
  · refine ⟨h.bd.1.of (fun y j _ _ => hA y j (by omega)), fun i hi => ?_, h.bd.2.2.1.of (fun y j _ _ => hA y j (by omega)), h.bd.2.2.2.of (fun y j _ _ => hA y j (by omega))⟩
    by_cases e1 : i = x
    · subst e1
      exact Bd.at h.bd.1 (fun q j hq => mRem_at hx hq)
    · exact (h.bd.2.1 i hi).of (fun y j _ _ => mRem_oth hx (by omega) (by omega))
  · refine ⟨⟨?_, Nat.mod_lt _ (by omega)⟩, ⟨?_, rRem_cnt hc, by omega⟩, fun i i1 i2 => ?_⟩
    · unfold mRem
      rw [up2_ne (by omega), up2_same]
    · unfold mRem
      rw [up2_same]
    · by_cases e1 : i = 1
      · subst e1
        refine ⟨L, n, h.on.of (fun q j hq => ?_) (fun k hk => rRem_new hc hk)⟩
        have e2 : ((x + 1) % 30 + 30 - 1) % 30 = x := by omega
        show mRem A x c (39 + 7 * (((x + 1) % 30 + 30 - 1) % 30) + q) j = _
        rw [e2]
        exact mRem_at hx hq
      · obtain ⟨L1, n1, h1⟩ := h.de.2.2 (i - 1) (by omega) (by omega)
        refine ⟨L1, n1, h1.of (fun q j hq => ?_) (fun k hk => rRem_old hc hk (by omega) i2)⟩
        have e2 : ((x + 1) % 30 + 30 - i) % 30 = (x + 30 - (i - 1)) % 30 := by omega
        show mRem A x c (39 + 7 * (((x + 1) % 30 + 30 - i) % 30) + q) j = A (39 + 7 * ((x + 30 - (i - 1)) % 30) + q) j
        rw [e2]
        unfold Cnt at hq
        exact mRem_oth hx (by omega) (by omega)
end Deeds
