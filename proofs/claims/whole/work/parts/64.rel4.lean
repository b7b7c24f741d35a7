/-! ===== visits, years, draws ===== -/
theorem mThick_out {A : inm} {x j : Nat} (h : x < 30 ∨ 32 < x) : mThick A 30 x j = A x j := by
  unfold mThick
  split
  · exact up2_ne (by omega)
  · split
    · exact (up2_ne (by omega)).trans ((up2_ne (by omega)).trans ((up2_ne (by omega)).trans ((cp2_ne (by omega)).trans (cp2_ne (by omega)))))
    · rfl
theorem mThick_30 {A : inm} {j : Nat} (h : j ≠ 0) : mThick A 30 30 j = A 30 j := by
  unfold mThick
  split
  · exact up2_ne (by omega)
  · split
    · exact (up2_ne (by omega)).trans ((up2_ne (by omega)).trans ((up2_ne (by omega)).trans ((cp2_ne (by omega)).trans (cp2_ne (by omega)))))
    · rfl
theorem rGrow_out {B : inm} {L x j : Nat} (h : x ≠ 284 ∨ 25 ≤ j) (hL : L ≤ 12) : rGrow B L x j = B x j := by
  unfold rGrow
  split
  · exact up2_ne (by omega)
  · split
    · exact (up2_ne (by omega)).trans ((up2_ne (by omega)).trans ((up2_ne (by omega)).trans (gr_out (by omega))))
    · rfl
theorem gr_in {B : inm} {k L j : Nat} (h : (k + 2 ≤ j ∧ j < L + 2) ∨ (k + 14 ≤ j ∧ j < L + 14)) : gr B k L 284 j = B 284 (j - 1) := by
  unfold gr
  rw [if_pos ⟨rfl, h⟩]
theorem Bd.thick {A : inm} {U : Nat} (hb : Bd A 30 U) : Bd (mThick A 30) 30 U := by
  unfold Bd at *
  rw [mThick_30 (by omega), mThick_30 (by omega), mThick_30 (by omega), mThick_30 (by omega), mThick_30 (by omega)]
  refine ⟨fun e he => ?_, fun e he => ?_, fun e he => ?_, hb.2.2.2⟩
  · rw [mThick_out (by omega)]
    exact hb.1 e he
  · rw [mThick_out (by omega)]
    exact hb.2.1 e he
  · rw [mThick_out (by omega)]
    exact hb.2.2.1 e he
section Grow
variable {A B A' B' : inm} {w U E T : Nat} {lt : Nat → Nat} {L n x c : Nat}
theorem OR.grow {mid : Int} (h : OR (fun i => A (30 + i)) (B 284) mid L n) (h1 : 1 ≤ L) : ∃ L', 1 ≤ L' ∧ OR (fun i => mThick A 30 (30 + i)) (rGrow B L 284) mid L' n := by
  obtain ⟨⟨a1, a2, a3⟩, b, g, ⟨d1, d2, d3, d4⟩, e1, e2, e3, e4⟩ := h
  have t0 : A 32 0 = B 284 13 := (b 0 h1).2.1
  have t1 : 0 ≤ A 32 0 ∧ A 32 0 ≤ 20 := (b 0 h1).2.2
  have hA : ∀ i j, 3 ≤ i → mThick A 30 (30 + i) j = A (30 + i) j := fun i j hi => mThick_out (by omega)
  have hA0 : ∀ j, j ≠ 0 → mThick A 30 (30 + 0) j = A (30 + 0) j := fun j hj => mThick_30 hj
  have hB : ∀ k, 25 ≤ k → rGrow B L 284 k = B 284 k := fun k hk => rGrow_out (Or.inr hk) a3
  have rest : ∀ L' : Nat, (mThick A 30 30 0 = (L' : Int) ∧ rGrow B L 284 0 = (L' : Int) ∧ L' ≤ 12) → (∀ j, j < L' → (mThick A 30 31 j = rGrow B L 284 (j + 1) ∧ 0 ≤ mThick A 30 31 j ∧ mThick A 30 31 j ≤ 4) ∧ mThick A 30 32 j = rGrow B L 284 (j + 13) ∧ 0 ≤ mThick A 30 32 j ∧ mThick A 30 32 j ≤ 20) → OR (fun i => mThick A 30 (30 + i)) (rGrow B L 284) mid L' n := by
    intro L' q1 q2
    refine ⟨q1, q2, fun e he => ?_, ⟨?_, ?_, ?_, ?_⟩, ?_, (hB 44 (by omega)).trans e2, e3, fun i q hi hq => ?_⟩
    · show mThick A 30 (30 + 3) e = _ ∧ mThick A 30 (30 + 4) e = _ ∧ mThick A 30 (30 + 5) e = _
      rw [hA 3 e (by omega), hA 4 e (by omega), hA 5 e (by omega), hB _ (by omega), hB _ (by omega), hB _ (by omega)]
      exact g e he
    · show mThick A 30 (30 + 0) 8 = _
      rw [hA0 8 (by omega), hB _ (by omega)]
      exact d1
    · show mThick A 30 (30 + 0) 9 = _
      rw [hA0 9 (by omega), hB _ (by omega)]
      exact d2
    · show _ = if mThick A 30 (30 + 0) 10 = 0 then 0 else mid
      rw [hA0 10 (by omega), hB _ (by omega)]
      exact d3
    · show mThick A 30 (30 + 0) 11 = _
      rw [hA0 11 (by omega), hB _ (by omega)]
      exact d4
    · show mThick A 30 (30 + 0) 7 = _
      rw [hA0 7 (by omega)]
      exact e1
    · show mThick A 30 (30 + 6) _ = _
      rw [hA 6 _ (by omega), hB _ (by omega)]
      exact e4 i q hi hq
  have a1' : A 30 0 = (L : Int) := a1
  by_cases c1 : A 32 0 < 20
  · have eA : mThick A 30 = up2 A 32 0 (A 32 0 + 1) := by unfold mThick; rw [if_pos c1]
    have eB : rGrow B L = up2 B 284 13 (A 32 0 + 1) := by unfold rGrow; rw [if_pos (by rw [← t0]; exact c1), t0]
    refine ⟨L, h1, rest L ⟨?_, ?_, a3⟩ (fun j hj => ?_)⟩
    · rw [eA, up2_ne (by omega)]
      exact a1
    · rw [eB, up2_ne (by omega)]
      exact a2
    · rw [eA, eB, up2_ne (a := 32) (x := 31) (by omega), up2_ne (a := 284) (x := 284) (j := j + 1) (by omega)]
      refine ⟨(b j hj).1, ?_⟩
      by_cases hj0 : j = 0
      · subst hj0
        rw [up2_same, up2_same]
        exact ⟨rfl, by omega, by omega⟩
      · rw [up2_ne (by omega), up2_ne (by omega)]
        exact (b j hj).2
  · by_cases c2 : L < 12
    · have eA : mThick A 30 = up2 (up2 (up2 (cp2 (cp2 A (30 + 1) 0 (30 + 1) 1 11) (30 + 2) 0 (30 + 2) 1 11) (30 + 1) 0 2) (30 + 2) 0 1) 30 0 (A 30 0 + 1) := by unfold mThick; rw [if_neg c1, if_pos (by omega)]
      have eB : rGrow B L = up2 (up2 (up2 (gr B 0 L) 284 1 2) 284 13 1) 284 0 ((L + 1 : Nat) : Int) := by unfold rGrow; rw [if_neg (by rw [← t0]; exact c1), if_pos c2]
      refine ⟨L + 1, by omega, rest (L + 1) ⟨?_, ?_, by omega⟩ (fun j hj => ?_)⟩
      · rw [eA, up2_same, a1']
        rfl
      · rw [eB, up2_same]
      · rw [eA, eB]
        by_cases hj0 : j = 0
        · subst hj0
          have x1 : (up2 (up2 (up2 (cp2 (cp2 A (30 + 1) 0 (30 + 1) 1 11) (30 + 2) 0 (30 + 2) 1 11) (30 + 1) 0 2) (30 + 2) 0 1) 30 0 (A 30 0 + 1)) 31 0 = 2 := (up2_ne (by omega)).trans ((up2_ne (by omega)).trans up2_same)
          have x2 : (up2 (up2 (up2 (cp2 (cp2 A (30 + 1) 0 (30 + 1) 1 11) (30 + 2) 0 (30 + 2) 1 11) (30 + 1) 0 2) (30 + 2) 0 1) 30 0 (A 30 0 + 1)) 32 0 = 1 := (up2_ne (by omega)).trans up2_same
          have y1 : up2 (up2 (up2 (gr B 0 L) 284 1 2) 284 13 1) 284 0 ((L + 1 : Nat) : Int) 284 (0 + 1) = 2 := (up2_ne (by omega)).trans ((up2_ne (by omega)).trans up2_same)
          have y2 : up2 (up2 (up2 (gr B 0 L) 284 1 2) 284 13 1) 284 0 ((L + 1 : Nat) : Int) 284 (0 + 13) = 1 := (up2_ne (by omega)).trans up2_same
          rw [x1, x2, y1, y2]
          exact ⟨⟨rfl, by omega, by omega⟩, rfl, by omega, by omega⟩
        · have x1 : (up2 (up2 (up2 (cp2 (cp2 A (30 + 1) 0 (30 + 1) 1 11) (30 + 2) 0 (30 + 2) 1 11) (30 + 1) 0 2) (30 + 2) 0 1) 30 0 (A 30 0 + 1)) 31 j = A 31 (j - 1) := (up2_ne (by omega)).trans ((up2_ne (by omega)).trans ((up2_ne (by omega)).trans ((cp2_ne (by omega)).trans ((cp2_in (by omega) (by omega)).trans (congrArg (A 31) (by omega))))))
          have x2 : (up2 (up2 (up2 (cp2 (cp2 A (30 + 1) 0 (30 + 1) 1 11) (30 + 2) 0 (30 + 2) 1 11) (30 + 1) 0 2) (30 + 2) 0 1) 30 0 (A 30 0 + 1)) 32 j = A 32 (j - 1) := (up2_ne (by omega)).trans ((up2_ne (by omega)).trans ((up2_ne (by omega)).trans ((cp2_in (by omega) (by omega)).trans ((cp2_ne (by omega)).trans (congrArg (A 32) (by omega))))))
          have y1 : up2 (up2 (up2 (gr B 0 L) 284 1 2) 284 13 1) 284 0 ((L + 1 : Nat) : Int) 284 (j + 1) = B 284 (j - 1 + 1) := (up2_ne (by omega)).trans ((up2_ne (by omega)).trans ((up2_ne (by omega)).trans ((gr_in (by omega)).trans (congrArg (B 284) (by omega)))))
          have y2 : up2 (up2 (up2 (gr B 0 L) 284 1 2) 284 13 1) 284 0 ((L + 1 : Nat) : Int) 284 (j + 13) = B 284 (j - 1 + 13) := (up2_ne (by omega)).trans ((up2_ne (by omega)).trans ((up2_ne (by omega)).trans ((gr_in (by omega)).trans (congrArg (B 284) (by omega)))))
          rw [x1, x2, y1, y2]
          exact b (j - 1) (by omega)
    · have eA : mThick A 30 = A := by unfold mThick; rw [if_neg c1, if_neg (by omega)]
      have eB : rGrow B L = B := by unfold rGrow; rw [if_neg (by rw [← t0]; exact c1), if_neg c2]
      refine ⟨L, h1, rest L ⟨by rw [eA]; exact a1, by rw [eB]; exact a2, a3⟩ (fun j hj => ?_)⟩
      rw [eA, eB]
      exact b j hj
theorem RelP.grow (h : RelP A B w U E T lt L n x c) (h1 : 1 ≤ L) : ∃ L', 1 ≤ L' ∧ RelP (mThick A 30) (rGrow B L) w U E T lt L' n x c := by
  obtain ⟨L', hL', hO⟩ := h.on.grow h1
  exact ⟨L', hL', h.onion (fun y i _ h2 => mThick_out (by omega)) (fun y i _ h2 => rGrow_out (Or.inl h2) h.on.1.2.2) hO (Nat.le_refl _) h.u h.bd.1.thick⟩
theorem mYear_out {A : inm} {x j : Nat} (h : x ≠ 30 ∧ x ≠ 32 ∧ x ≠ 34) : mYear A 30 w L E x j = A x j := by
  unfold mYear
  exact (up2_ne (by omega)).trans ((ov_out (by omega)).trans (ov_out (by omega)))
theorem rYear_out {B : inm} {x j : Nat} (hL : L ≤ 12) (hE : E ≤ 5) (h : x ≠ 284 ∨ j < 13 ∨ (26 ≤ j ∧ j < 34) ∨ 39 ≤ j) : rYear B L E x j = B x j := by
  unfold rYear rY2 rY1
  exact (up2_ne (by omega)).trans ((ovo_out (by omega)).trans (ovo_out (by omega)))
/-- A YEAR passes: both -/
theorem RelP.year (h : RelP A B w U E T lt L n x c) (hU : U < 100000) : RelP (mYear A 30 w L E) (rYear B L E) w (U + 1) E T lt L n x c := by
  have hw := kdw h.cs
  have hca := h.ca
  have hE5 : E ≤ 5 := hca.2.1.2.2
  have hb := h.bd.1
  obtain ⟨⟨a1, a2, a3⟩, b, g, ⟨d1, d2, d3, d4⟩, e1, e2, e3, e4⟩ := h.on
  obtain ⟨b1, b2, b3, b4, b5, b6, b7, b8, b9⟩ := hb
  have x0 : ∀ j, j ≠ 8 → mYear A 30 w L E 30 j = A 30 j := fun j hj => by
    unfold mYear
    exact (up2_ne (by omega)).trans ((ov_out (by omega)).trans (ov_out (by omega)))
  have x8 : mYear A 30 w L E 30 8 = A 30 8 + 1 := by
    unfold mYear
    exact up2_same
  have x2 : ∀ j, j < L → mYear A 30 w L E 32 j = if A 31 j = 3 then min 20 (A 32 j + 1) else A 32 j := fun j hj => by
    unfold mYear
    exact (up2_ne (by omega)).trans ((ov_out (by omega)).trans (ov_in hj))
  have x4 : ∀ e, mYear A 30 w L E 34 e = if e < E then max 0 (A 34 e - A (w + 4) e) else A 34 e := fun e => by
    unfold mYear
    refine (up2_ne (by omega)).trans ?_
    by_cases he : e < E
    · rw [if_pos he]
      exact ov_in he
    · rw [if_neg he]
      exact (ov_out (by omega)).trans (ov_out (by omega))
  have y13 : ∀ j, j < L → rYear B L E 284 (j + 13) = B 284 (j + 13) + (if B 284 (j + 1) = 3 ∧ B 284 (j + 13) < 20 then 1 else 0) := fun j hj => by
    unfold rYear rY2 rY1
    refine (up2_ne (by omega)).trans ((ovo_out (by omega)).trans ((ovo_in (by omega) (by omega)).trans ?_))
    rw [show j + 13 - 13 = j by omega]
  have y25 : rYear B L E 284 25 = B 284 25 + 1 := by
    unfold rYear rY2
    rw [up2_same]
    unfold rY1
    rw [ovo_out (by omega)]
  have y34 : ∀ e, e < 5 → rYear B L E 284 (e + 34) = if e < E then (if B 281 e < B 284 (e + 34) then B 284 (e + 34) - B 281 e else 0) else B 284 (e + 34) := fun e he => by
    unfold rYear rY2
    refine (up2_ne (by omega)).trans ?_
    by_cases h1 : e < E
    · rw [if_pos h1]
      refine (ovo_in (by omega) (by omega)).trans ?_
      rw [show e + 34 - 34 = e by omega]
      unfold rY1
      rw [ovo_out (by omega), ovo_out (by omega)]
    · rw [if_neg h1]
      unfold rY1
      exact (ovo_out (by omega)).trans (ovo_out (by omega))
  have d1' : A 30 8 = B 284 25 := d1
  refine h.onion (fun y i _ h2 => mYear_out (by omega)) (fun y i _ h2 => rYear_out a3 hE5 (Or.inl h2)) ⟨⟨?_, ?_, a3⟩, fun j hj => ?_, fun e he => ?_, ⟨?_, ?_, ?_, ?_⟩, ?_, ?_, e3, fun i q hi hq => ?_⟩ (by omega) (by omega) ⟨fun e he => ?_, fun e he => ?_, fun e he => ?_, ?_, ?_, ?_, ?_, ?_, by omega⟩
  · exact (x0 0 (by omega)).trans a1
  · exact (rYear_out a3 hE5 (by omega)).trans a2
  · have hbj := b j hj
    have k1 : A 31 j = B 284 (j + 1) := hbj.1.1
    have t1 : A 32 j = B 284 (j + 13) := hbj.2.1
    have t2 : 0 ≤ A 32 j ∧ A 32 j ≤ 20 := hbj.2.2
    show (mYear A 30 w L E 31 j = _ ∧ 0 ≤ mYear A 30 w L E 31 j ∧ mYear A 30 w L E 31 j ≤ 4) ∧ mYear A 30 w L E 32 j = _ ∧ 0 ≤ mYear A 30 w L E 32 j ∧ mYear A 30 w L E 32 j ≤ 20
    rw [mYear_out (by omega), rYear_out (j := j + 1) a3 hE5 (by omega), x2 j hj, y13 j hj, ← k1, ← t1]
    refine ⟨⟨rfl, hbj.1.2⟩, ?_⟩
    by_cases hk : A 31 j = 3
    · rw [if_pos hk]
      by_cases ht : A 32 j < 20
      · rw [if_pos ⟨hk, ht⟩]
        omega
      · rw [if_neg (fun q => ht q.2)]
        omega
    · rw [if_neg hk, if_neg (fun q => hk q.1)]
      omega
  · have ge := g e he
    show mYear A 30 w L E 33 e = _ ∧ mYear A 30 w L E 34 e = _ ∧ mYear A 30 w L E 35 e = _
    rw [mYear_out (by omega), mYear_out (x := 35) (by omega), rYear_out (j := e + 29) a3 hE5 (by omega), rYear_out (j := e + 39) a3 hE5 (by omega), x4 e, y34 e he]
    refine ⟨ge.1, ?_, ge.2.2⟩
    have t1 : A 34 e = B 284 (e + 34) := ge.2.1
    by_cases h1 : e < E
    · rw [if_pos h1, if_pos h1, ← t1, ← (hca.2.2.1 e h1).2.1]
      split <;> omega
    · rw [if_neg h1, if_neg h1]
      exact t1
  · show mYear A 30 w L E 30 8 = _
    rw [x8, y25, d1']
  · show mYear A 30 w L E 30 9 = _
    rw [x0 9 (by omega), rYear_out a3 hE5 (by omega)]
    exact d2
  · show _ = if mYear A 30 w L E 30 10 = 0 then 0 else A w 1
    rw [x0 10 (by omega), rYear_out a3 hE5 (by omega)]
    exact d3
  · show mYear A 30 w L E 30 11 = _
    rw [x0 11 (by omega), rYear_out a3 hE5 (by omega)]
    exact d4
  · exact (x0 7 (by omega)).trans e1
  · exact (rYear_out a3 hE5 (by omega)).trans e2
  · show mYear A 30 w L E 36 _ = _
    rw [mYear_out (by omega), rYear_out a3 hE5 (by omega)]
    exact e4 i q hi hq
  · show 0 ≤ mYear A 30 w L E 33 e ∧ mYear A 30 w L E 33 e ≤ 9999
    rw [mYear_out (by omega)]
    exact b1 e he
  · show 0 ≤ mYear A 30 w L E 34 e ∧ mYear A 30 w L E 34 e ≤ 9999
    rw [x4 e]
    have h2 : 0 ≤ A 34 e ∧ A 34 e ≤ 9999 := b2 e he
    by_cases h1 : e < E
    · rw [if_pos h1]
      have := (hca.2.2.1 e h1).2.2
      omega
    · rw [if_neg h1]
      exact h2
  · show 0 ≤ mYear A 30 w L E 35 e ∧ mYear A 30 w L E 35 e ≤ ((U + 1 : Nat) : Int)
    rw [mYear_out (by omega)]
    have : 0 ≤ A 35 e ∧ A 35 e ≤ (U : Int) := b3 e he
    omega
  · rw [x0 7 (by omega)]
    exact b4
  · rw [x8]
    omega
  · rw [x0 11 (by omega)]
    exact b6
  · rw [x0 9 (by omega)]
    exact b7
  · rw [x0 10 (by omega)]
    exact b8
theorem RelP.stop {b : Int} (h : RelP A B w U E T lt L n x c) (hb : b = 0 ∨ b = 1) : RelP (up2 A 30 9 b) (up2 B 284 26 b) w U E T lt L n x c := by
  have hbd := h.bd.1
  obtain ⟨⟨a1, a2, a3⟩, b0, g, ⟨d1, d2, d3, d4⟩, e1, e2, e3, e4⟩ := h.on
  obtain ⟨b1, b2, b3, b4, b5, b6, b7, b8, b9⟩ := hbd
  have x0 : ∀ y j, y ≠ 30 ∨ j ≠ 9 → up2 A 30 9 b y j = A y j := fun y j hj => up2_ne (by omega)
  have y0 : ∀ j, j ≠ 26 → up2 B 284 26 b 284 j = B 284 j := fun j hj => up2_ne (by omega)
  refine h.onion (fun y i _ h2 => x0 y i (by omega)) (fun y i _ h2 => up2_ne (by omega)) ⟨⟨?_, ?_, a3⟩, fun j hj => ?_, fun e he => ?_, ⟨?_, ?_, ?_, ?_⟩, ?_, ?_, e3, fun i q hi hq => ?_⟩ (by omega) h.u ⟨fun e he => ?_, fun e he => ?_, fun e he => ?_, ?_, ?_, ?_, ?_, ?_, by omega⟩
  · exact (x0 30 0 (by omega)).trans a1
  · exact (y0 0 (by omega)).trans a2
  · show (up2 A 30 9 b 31 j = _ ∧ 0 ≤ up2 A 30 9 b 31 j ∧ up2 A 30 9 b 31 j ≤ 4) ∧ up2 A 30 9 b 32 j = _ ∧ 0 ≤ up2 A 30 9 b 32 j ∧ up2 A 30 9 b 32 j ≤ 20
    rw [x0 31 j (by omega), x0 32 j (by omega), y0 _ (by omega), y0 _ (by omega)]
    exact b0 j hj
  · show up2 A 30 9 b 33 e = _ ∧ up2 A 30 9 b 34 e = _ ∧ up2 A 30 9 b 35 e = _
    rw [x0 33 e (by omega), x0 34 e (by omega), x0 35 e (by omega), y0 _ (by omega), y0 _ (by omega), y0 _ (by omega)]
    exact g e he
  · show up2 A 30 9 b 30 8 = _
    rw [x0 30 8 (by omega), y0 _ (by omega)]
    exact d1
  · show up2 A 30 9 b 30 9 = _
    rw [up2_same, up2_same]
  · show _ = if up2 A 30 9 b 30 10 = 0 then 0 else A w 1
    rw [x0 30 10 (by omega), y0 _ (by omega)]
    exact d3
  · show up2 A 30 9 b 30 11 = _
    rw [x0 30 11 (by omega), y0 _ (by omega)]
    exact d4
  · exact (x0 30 7 (by omega)).trans e1
  · exact (y0 44 (by omega)).trans e2
  · show up2 A 30 9 b 36 _ = _
    rw [x0 36 _ (by omega), y0 _ (by omega)]
    exact e4 i q hi hq
  · rw [x0 _ _ (by omega)]
    exact b1 e he
  · rw [x0 _ _ (by omega)]
    exact b2 e he
  · rw [x0 _ _ (by omega)]
    exact b3 e he
  · rw [x0 _ _ (by omega)]
    exact b4
  · rw [x0 _ _ (by omega)]
    exact b5
  · rw [x0 _ _ (by omega)]
    exact b6
  · rw [up2_same]
    exact hb
  · rw [x0 _ _ (by omega)]
    exact b8
theorem drawC_R {s : Int} : drawC s = drawR s := by
  unfold drawC drawR wr
  first | omega | (simp only [Int.bmod_def]; split <;> split <;> omega) | (have e1 := Int.bmod_emod (x := s * 1103515245) (m := 4294967296); omega)
/-- what a draw brings: both -/
theorem RelP.chance (h : RelP A B w U E T lt L n x c) (hE : 1 ≤ E) (hU : U < 100000) : ∃ L' n', RelP (mDraw A w E) (rDraw B E n L) w (U + 1) E T lt L' n' x c := by
  have hw := kdw h.cs
  have hs : A 278 0 = B 279 9 := h.dr.1
  have hL : A 30 0 = (L : Int) := h.on.1.1
  have h9 : A 30 9 = B 284 26 := h.on.2.2.2.1.2.1
  have h9b : A 30 9 = 0 ∨ A 30 9 = 1 := h.bd.1.2.2.2.2.2.2.1
  have hd : RelP (up2 A 278 0 (drawC (A 278 0))) (up2 B 279 9 (drawC (A 278 0))) w U E T lt L n x c := h.draw (drawC_in _)
  have hd2 : RelP (up2 (up2 A 278 0 (drawC (A 278 0))) 278 0 (drawC (drawC (A 278 0)))) (up2 (up2 B 279 9 (drawC (A 278 0))) 279 9 (drawC (drawC (A 278 0)))) w U E T lt L n x c := hd.draw (drawC_in _)
  unfold mDraw rDraw
  rw [← hs, ← drawC_R, ← drawC_R, ← h9, hL]
  have hj : ((drawC (drawC (A 278 0))) / 65536 % (E : Int)).toNat < E := by
    have h1 := Int.emod_nonneg (drawC (drawC (A 278 0)) / 65536) (b := (E : Int)) (by omega)
    have h2 := Int.emod_lt_of_pos (drawC (drawC (A 278 0)) / 65536) (b := (E : Int)) (by omega)
    omega
  by_cases c1 : (drawC (A 278 0)) / 65536 % 6 < 2
  · rw [if_pos c1, if_pos c1]
    by_cases c2 : 0 < (L : Int) ∧ A 30 9 = 0
    · rw [if_pos c2, if_pos c2]
      have hk := hd2.take (by omega) hj hU
      rw [show (up2 (up2 A 278 0 (drawC (A 278 0))) 278 0 (drawC (drawC (A 278 0)))) (w + 3) ((drawC (drawC (A 278 0))) / 65536 % (E : Int)).toNat = A (w + 3) ((drawC (drawC (A 278 0))) / 65536 % (E : Int)).toNat from (up2_ne (by omega)).trans (up2_ne (by omega))] at hk
      exact ⟨_, _, hk⟩
    · rw [if_neg c2, if_neg c2]
      exact ⟨_, _, hd2.mono (by omega) (by omega)⟩
  · rw [if_neg c1, if_neg c1]
    by_cases c2 : (drawC (A 278 0)) / 65536 % 6 = 2
    · by_cases c3 : 0 < (L : Int)
      · rw [if_pos c2, if_pos c3, if_pos ⟨c2, c3⟩]
        obtain ⟨L', _, hg⟩ := hd.grow (by omega)
        exact ⟨L', n, hg.mono (by omega) (by omega)⟩
      · rw [if_pos c2, if_neg c3, if_neg (fun q => c3 q.2), if_neg (by omega)]
        exact ⟨_, _, hd.mono (by omega) (by omega)⟩
    · rw [if_neg c2, if_neg (show ¬ (drawC (A 278 0) / 65536 % 6 = 2 ∧ 0 < (L : Int)) from fun q => c2 q.1)]
      by_cases c4 : (drawC (A 278 0)) / 65536 % 6 = 3
      · rw [if_pos c4, if_pos c4]
        have e1 : (1 - A 30 9 : Int) = if A 30 9 = 0 then 1 else 0 := by
          rcases h9b with q | q <;> rw [q] <;> rfl
        rw [e1]
        exact ⟨_, _, (hd.stop (b := if A 30 9 = 0 then 1 else 0) (by split <;> omega)).mono (by omega) (by omega)⟩
      · rw [if_neg c4, if_neg c4]
        exact ⟨_, _, hd.mono (by omega) (by omega)⟩
end Grow
