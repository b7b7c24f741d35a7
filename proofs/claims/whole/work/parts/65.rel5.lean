/-! ===== what is fed, guessed, written, kept, undone: the relation stays ===== -/
section Small
variable {A B A' B' : inm} {w U E T : Nat} {lt : Nat → Nat} {L n x c : Nat}
theorem RelP.feed {m : Nat} {z : Int} (h : RelP A B w U E T lt L n x c) (hm : A 1 2 = (m : Int)) (h240 : m < 240) (hz : 0 ≤ z ∧ z ≤ 255) : RelP (mFeed A m z) (rFeed B m z) w U E T lt L n x c := by
  have hw := kdw h.cs
  have hw4 : 4 ≤ w := by rcases h.cs with q | q <;> omega
  have hA : ∀ yy jj, yy ≠ 1 ∧ yy ≠ 2 → (mFeed A m z) yy jj = A yy jj := fun yy jj hyy => (up2_ne (by omega)).trans (up2_ne (by omega))
  have hB : ∀ yy jj, (yy ≠ 279 ∨ jj ≠ 18) ∧ yy ≠ 290 → (rFeed B m z) yy jj = B yy jj := fun yy jj hyy => (up2_ne (by omega)).trans (up2_ne (by omega))
  have e : (mFeed A m z) w 1 = A w 1 := hA _ _ (by omega)
  unfold RelP
  rw [e]
  refine ⟨h.cs, h.u, ?_, h.ca.of (fun x j _ _ => hA x j (by omega)) (fun x j _ => hB x j (by omega)), h.on.of (fun i j q => hA _ _ (by unfold Cnt at q; omega)) (fun k _ => hB _ _ (by omega)), h.bd.of (fun x j _ _ => hA x j (by omega)), h.de.of (fun x j _ _ => hA x j (by omega)) (fun x j _ => hB x j (by omega)), h.im.of (fun x j _ _ => hA x j (by omega)) (fun x j _ => hB x j (by omega)), h.gu.of (fun x j _ _ => hA x j (by omega)) (fun x j _ => hB x j (by omega)), h.bo.of (fun x j _ _ => hA x j (by omega)) (fun x j _ => hB x j (by omega)), h.dr.of (fun x j _ => hA x j (by omega)) (fun x j _ => hB x j (by omega))⟩
  obtain ⟨⟨m', h1, h2, h3, h4⟩, h5⟩ := h.rd
  refine ⟨⟨m + 1, up2_same, up2_same, by omega, fun j => ?_⟩, ?_⟩
  · by_cases hj : j = m
    · subst hj
      rw [show mFeed A j z 2 j = z from (up2_ne (by omega)).trans up2_same, show rFeed B j z 290 j = z from (up2_ne (by omega)).trans up2_same]
      exact ⟨rfl, hz⟩
    · rw [show mFeed A m z 2 j = A 2 j from (up2_ne (by omega)).trans (up2_ne (by omega)), show rFeed B m z 290 j = B 290 j from (up2_ne (by omega)).trans (up2_ne (by omega))]
      exact h4 j
  · rw [show mFeed A m z 1 5 = A 1 5 from (up2_ne (by omega)).trans (up2_ne (by omega)), hB 279 19 (by omega)]
    exact h5
theorem RelP.tear (h : RelP A B w U E T lt L n x c) : RelP (up2 (up2 A 266 3 0) 270 2 0) (up2 (up2 B 279 13 0) 279 10 0) w U E T lt L n x c := by
  have hw := kdw h.cs
  have hw4 : 4 ≤ w := by rcases h.cs with q | q <;> omega
  have hA : ∀ yy jj, yy ≠ 266 ∧ yy ≠ 270 → (up2 (up2 A 266 3 0) 270 2 0) yy jj = A yy jj := fun yy jj hyy => (up2_ne (by omega)).trans (up2_ne (by omega))
  have hB : ∀ yy jj, (yy ≠ 279 ∨ (jj ≠ 13 ∧ jj ≠ 10)) → (up2 (up2 B 279 13 0) 279 10 0) yy jj = B yy jj := fun yy jj hyy => (up2_ne (by omega)).trans (up2_ne (by omega))
  have e : (up2 (up2 A 266 3 0) 270 2 0) w 1 = A w 1 := hA _ _ (by omega)
  unfold RelP
  rw [e]
  refine ⟨h.cs, h.u, h.rd.of (fun x j _ _ => hA x j (by omega)) (fun x j _ => hB x j (by omega)), h.ca.of (fun x j _ _ => hA x j (by omega)) (fun x j _ => hB x j (by omega)), h.on.of (fun i j q => hA _ _ (by unfold Cnt at q; omega)) (fun k _ => hB _ _ (by omega)), h.bd.of (fun x j _ _ => hA x j (by omega)), h.de.of (fun x j _ _ => hA x j (by omega)) (fun x j _ => hB x j (by omega)), h.im.of (fun x j _ _ => hA x j (by omega)) (fun x j _ => hB x j (by omega)), ?_, ?_, h.dr.of (fun x j _ => hA x j (by omega)) (fun x j _ => hB x j (by omega))⟩
  · exact ⟨0, (up2_ne (by omega)).trans up2_same, (up2_ne (by omega)).trans up2_same, by omega, fun _ => 0, fun i hi => absurd hi (by omega)⟩
  · exact ⟨0, up2_same, up2_same, by omega, fun i hi => absurd hi (by omega)⟩
theorem RelP.guess {g : Nat} {k a b : Int} (h : RelP A B w U E T lt L n x c) (hg : A 266 3 = (g : Int)) (h6 : g < 6) (hk : 0 ≤ k ∧ k < 8) (hb : b = 0 ∨ b = 1) : RelP (mGuess A g k a b) (rGuess B g k a b) w U E T lt L n x c := by
  have hw := kdw h.cs
  have hw4 : 4 ≤ w := by rcases h.cs with q | q <;> omega
  have hA : ∀ yy jj, yy < 266 ∨ 269 < yy → (mGuess A g k a b) yy jj = A yy jj := fun yy jj hyy => (up2_ne (by omega)).trans ((up2_ne (by omega)).trans ((up2_ne (by omega)).trans (up2_ne (by omega))))
  have hB : ∀ yy jj, (yy ≠ 279 ∨ jj ≠ 13) ∧ (yy < 287 ∨ 289 < yy) → (rGuess B g k a b) yy jj = B yy jj := fun yy jj hyy => (up2_ne (by omega)).trans ((up2_ne (by omega)).trans ((up2_ne (by omega)).trans (up2_ne (by omega))))
  have e : (mGuess A g k a b) w 1 = A w 1 := hA _ _ (by omega)
  unfold RelP
  rw [e]
  refine ⟨h.cs, h.u, h.rd.of (fun x j _ _ => hA x j (by omega)) (fun x j _ => hB x j (by omega)), h.ca.of (fun x j _ _ => hA x j (by omega)) (fun x j _ => hB x j (by omega)), h.on.of (fun i j q => hA _ _ (by unfold Cnt at q; omega)) (fun k _ => hB _ _ (by omega)), h.bd.of (fun x j _ _ => hA x j (by omega)), h.de.of (fun x j _ _ => hA x j (by omega)) (fun x j _ => hB x j (by omega)), h.im.of (fun x j _ _ => hA x j (by omega)) (fun x j _ => hB x j (by omega)), ?_, h.bo.of (fun x j _ _ => hA x j (by omega)) (fun x j _ => hB x j (by omega)), h.dr.of (fun x j _ => hA x j (by omega)) (fun x j _ => hB x j (by omega))⟩
  obtain ⟨g', h1, h2, h3, gk, h4⟩ := h.gu
  have hgg : g' = g := by omega
  subst hgg
  refine ⟨g' + 1, up2_same, up2_same, by omega, fun i => if i = g' then k.toNat else gk i, fun i hi => ?_⟩
  by_cases hj : i = g'
  · subst hj
    dsimp only
    rw [if_pos rfl, show mGuess A i k a b 267 i = k from (up2_ne (by omega)).trans ((up2_ne (by omega)).trans ((up2_ne (by omega)).trans up2_same)), show mGuess A i k a b 268 i = a from (up2_ne (by omega)).trans ((up2_ne (by omega)).trans up2_same), show mGuess A i k a b 269 i = b from (up2_ne (by omega)).trans up2_same, show rGuess B i k a b 287 i = k from (up2_ne (by omega)).trans ((up2_ne (by omega)).trans ((up2_ne (by omega)).trans up2_same)), show rGuess B i k a b 288 i = a from (up2_ne (by omega)).trans ((up2_ne (by omega)).trans up2_same), show rGuess B i k a b 289 i = b from (up2_ne (by omega)).trans up2_same]
    exact ⟨by omega, by omega, by omega, rfl, rfl, hb⟩
  · have x1 : ∀ y, 267 ≤ y ∧ y ≤ 269 → mGuess A g' k a b y i = A y i := fun y hy => (up2_ne (by omega)).trans ((up2_ne (by omega)).trans ((up2_ne (by omega)).trans (up2_ne (by omega))))
    have x2 : ∀ y, 287 ≤ y ∧ y ≤ 289 → rGuess B g' k a b y i = B y i := fun y hy => (up2_ne (by omega)).trans ((up2_ne (by omega)).trans ((up2_ne (by omega)).trans (up2_ne (by omega))))
    dsimp only
    rw [if_neg hj, x1 267 (by omega), x1 268 (by omega), x1 269 (by omega), x2 287 (by omega), x2 288 (by omega), x2 289 (by omega)]
    exact h4 i (by omega)
theorem RelP.book {g : Nat} {k a : Int} (h : RelP A B w U E T lt L n x c) (hg : A 270 2 = (g : Int)) (h20 : g < 20) (hk : 0 ≤ k ∧ k ≤ 4) : RelP (mBook A g k a) (rBook B g k a) w U E T lt L n x c := by
  have hw := kdw h.cs
  have hw4 : 4 ≤ w := by rcases h.cs with q | q <;> omega
  have hA : ∀ yy jj, yy < 270 ∨ 272 < yy → (mBook A g k a) yy jj = A yy jj := fun yy jj hyy => (up2_ne (by omega)).trans ((up2_ne (by omega)).trans (up2_ne (by omega)))
  have hB : ∀ yy jj, (yy ≠ 279 ∨ jj ≠ 10) ∧ (yy < 285 ∨ 286 < yy) → (rBook B g k a) yy jj = B yy jj := fun yy jj hyy => (up2_ne (by omega)).trans ((up2_ne (by omega)).trans (up2_ne (by omega)))
  have e : (mBook A g k a) w 1 = A w 1 := hA _ _ (by omega)
  unfold RelP
  rw [e]
  refine ⟨h.cs, h.u, h.rd.of (fun x j _ _ => hA x j (by omega)) (fun x j _ => hB x j (by omega)), h.ca.of (fun x j _ _ => hA x j (by omega)) (fun x j _ => hB x j (by omega)), h.on.of (fun i j q => hA _ _ (by unfold Cnt at q; omega)) (fun k _ => hB _ _ (by omega)), h.bd.of (fun x j _ _ => hA x j (by omega)), h.de.of (fun x j _ _ => hA x j (by omega)) (fun x j _ => hB x j (by omega)), h.im.of (fun x j _ _ => hA x j (by omega)) (fun x j _ => hB x j (by omega)), h.gu.of (fun x j _ _ => hA x j (by omega)) (fun x j _ => hB x j (by omega)), ?_, h.dr.of (fun x j _ => hA x j (by omega)) (fun x j _ => hB x j (by omega))⟩
  obtain ⟨g', h1, h2, h3, h4⟩ := h.bo
  have hgg : g' = g := by omega
  subst hgg
  refine ⟨g' + 1, up2_same, up2_same, by omega, fun i hi => ?_⟩
  by_cases hj : i = g'
  · subst hj
    rw [show mBook A i k a 271 i = k from (up2_ne (by omega)).trans ((up2_ne (by omega)).trans up2_same), show mBook A i k a 272 i = a from (up2_ne (by omega)).trans up2_same, show rBook B i k a 285 i = k from (up2_ne (by omega)).trans ((up2_ne (by omega)).trans up2_same), show rBook B i k a 286 i = a from (up2_ne (by omega)).trans up2_same]
    exact ⟨rfl, hk, rfl⟩
  · have x1 : ∀ y, 271 ≤ y ∧ y ≤ 272 → mBook A g' k a y i = A y i := fun y hy => (up2_ne (by omega)).trans ((up2_ne (by omega)).trans (up2_ne (by omega)))
    have x2 : ∀ y, 285 ≤ y ∧ y ≤ 286 → rBook B g' k a y i = B y i := fun y hy => (up2_ne (by omega)).trans ((up2_ne (by omega)).trans (up2_ne (by omega)))
    rw [x1 271 (by omega), x1 272 (by omega), x2 285 (by omega), x2 286 (by omega)]
    exact h4 i (by omega)
theorem RelP.back {m : Nat} (h : RelP A B w U E T lt L n x c) (hm : 1 ≤ m ∧ m ≤ c) : ∃ L1 n1, RelP (mBack A x c m) (rBack B (c - m)) w U E T lt L1 n1 ((x + 30 - m) % 30) (c - m) := by
  have hx : x < 30 := h.de.1.2
  have hc : c ≤ 30 := h.de.2.1.2.2
  have hy : (x + 30 - m) % 30 < 30 := Nat.mod_lt _ (by omega)
  have hOb := On_bef hy
  obtain ⟨L1, n1, hO⟩ := h.de.2.2 m hm.1 hm.2
  refine ⟨L1, n1, ?_⟩
  have hw := kdw h.cs
  have hw4 : 4 ≤ w := by rcases h.cs with q | q <;> omega
  have hA : ∀ yy jj, (yy < 30 ∨ 37 < yy) → (mBack A x c m) yy jj = A yy jj := fun yy jj hyy => (mCopy_out (by omega)).trans ((up2_ne (by omega)).trans (up2_ne (by omega)))
  have hB : ∀ yy jj, (yy ≠ 279 ∨ jj ≠ 33) ∧ yy ≠ 284 → (rBack B (c - m)) yy jj = B yy jj := fun yy jj hyy => (cp2_ne (by omega)).trans (up2_ne (by omega))
  have e : (mBack A x c m) w 1 = A w 1 := hA _ _ (by omega)
  unfold RelP
  rw [e]
  refine ⟨h.cs, h.u, h.rd.of (fun x j _ _ => hA x j (by omega)) (fun x j _ => hB x j (by omega)), h.ca.of (fun x j _ _ => hA x j (by omega)) (fun x j _ => hB x j (by omega)), ?_, ?_, ?_, h.im.of (fun x j _ _ => hA x j (by omega)) (fun x j _ => hB x j (by omega)), h.gu.of (fun x j _ _ => hA x j (by omega)) (fun x j _ => hB x j (by omega)), h.bo.of (fun x j _ _ => hA x j (by omega)) (fun x j _ => hB x j (by omega)), h.dr.of (fun x j _ => hA x j (by omega)) (fun x j _ => hB x j (by omega))⟩
  · refine hO.of (fun i j q => ?_) (fun k hk => ?_)
    · refine (mCopy_at hOb On_30 (by omega) q).trans ?_
      unfold Cnt at q
      exact (up2_ne (by omega)).trans (up2_ne (by omega))
    · show cp2 (up2 B 279 33 ((c - m : Nat) : Int)) 297 (125 * (c - m)) 284 0 125 284 k = B 297 (125 * (c - m) + k)
      refine (cp2_in (by omega) (by omega)).trans ((up2_ne (by omega)).trans ?_)
      exact congrArg (B 297) (by omega)
  · refine ⟨Bd.at (h.bd.2.1 _ hy) (fun i j q => ?_), fun i hi => (h.bd.2.1 i hi).of (fun x j _ _ => hA x j (by omega)), h.bd.2.2.1.of (fun x j _ _ => hA x j (by omega)), h.bd.2.2.2.of (fun x j _ _ => hA x j (by omega))⟩
    refine (mCopy_at hOb On_30 (by omega) q).trans ?_
    unfold Cnt at q
    exact (up2_ne (by omega)).trans (up2_ne (by omega))
  · refine ⟨⟨?_, hy⟩, ⟨?_, ?_, by omega⟩, fun i i1 i2 => ?_⟩
    · exact (mCopy_out (by omega)).trans ((up2_ne (by omega)).trans up2_same)
    · exact (mCopy_out (by omega)).trans up2_same
    · exact (cp2_ne (by omega)).trans up2_same
    · obtain ⟨L2, n2, h2⟩ := h.de.2.2 (i + m) (by omega) (by omega)
      refine ⟨L2, n2, h2.of (fun q j hq => ?_) (fun k hk => ?_)⟩
      · have e2 : ((x + 30 - m) % 30 + 30 - i) % 30 = (x + 30 - (i + m)) % 30 := by omega
        show mBack A x c m (39 + 7 * (((x + 30 - m) % 30 + 30 - i) % 30) + q) j = A (39 + 7 * ((x + 30 - (i + m)) % 30) + q) j
        rw [e2]
        exact hA _ _ (by omega)
      · show rBack B (c - m) 297 (125 * (c - m - i) + k) = B 297 (125 * (c - (i + m)) + k)
        rw [hB _ _ (by omega), show c - m - i = c - (i + m) by omega]
theorem RelP.keep {i : Nat} (h : RelP A B w U E T lt L n x c) (hi : i < 2) : RelP (mForget (up2 (mCopy (up2 A (250 + 8 * i) 0 1) (251 + 8 * i) 30) (250 + 8 * i) 2 (A 278 0))) (rKeep B i) w U E T lt L n 0 0 := by
  have hOi := On_img hi
  have hi8 : i = 0 ∨ i = 1 := by omega
  have hw := kdw h.cs
  have hw4 : 4 ≤ w := by rcases h.cs with q | q <;> omega
  have hA : ∀ yy jj, yy ≠ 37 ∧ (yy < 250 + 8 * i ∨ 257 + 8 * i < yy) → (mForget (up2 (mCopy (up2 A (250 + 8 * i) 0 1) (251 + 8 * i) 30) (250 + 8 * i) 2 (A 278 0))) yy jj = A yy jj := fun yy jj hyy => (up2_ne (by omega)).trans ((up2_ne (by omega)).trans ((up2_ne (by omega)).trans ((mCopy_out (by omega)).trans (up2_ne (by omega)))))
  have hB : ∀ yy jj, (yy ≠ 279 ∨ jj ≠ 33) ∧ (yy ≠ 302 ∨ jj ≠ i) ∧ (yy ≠ 301 ∨ jj < 126 * i ∨ 126 * i + 125 < jj) → (rKeep B i) yy jj = B yy jj := fun yy jj hyy => (up2_ne (by omega)).trans ((up2_ne (by omega)).trans ((up2_ne (by omega)).trans (cp2_out (by omega))))
  have e : (mForget (up2 (mCopy (up2 A (250 + 8 * i) 0 1) (251 + 8 * i) 30) (250 + 8 * i) 2 (A 278 0))) w 1 = A w 1 := hA _ _ (by omega)
  unfold RelP
  rw [e]
  have hC : ∀ q j, Cnt q j → mForget (up2 (mCopy (up2 A (250 + 8 * i) 0 1) (251 + 8 * i) 30) (250 + 8 * i) 2 (A 278 0)) (251 + 8 * i + q) j = A (30 + q) j := fun q j hq => by
    have hq6 : q ≤ 6 := by unfold Cnt at hq; omega
    refine (up2_ne (by omega)).trans ((up2_ne (by omega)).trans ((up2_ne (by omega)).trans ((mCopy_at On_30 hOi (by omega) hq).trans ?_)))
    exact up2_ne (by omega)
  refine ⟨h.cs, h.u, h.rd.of (fun x j _ _ => hA x j (by omega)) (fun x j _ => hB x j (by omega)), h.ca.of (fun x j _ _ => hA x j (by omega)) (fun x j _ => hB x j (by omega)), h.on.of (fun i j q => hA _ _ (by unfold Cnt at q; omega)) (fun k _ => hB _ _ (by omega)), ?_, ?_, ?_, h.gu.of (fun x j _ _ => hA x j (by omega)) (fun x j _ => hB x j (by omega)), h.bo.of (fun x j _ _ => hA x j (by omega)) (fun x j _ => hB x j (by omega)), h.dr.of (fun x j _ => hA x j (by omega)) (fun x j _ => hB x j (by omega))⟩
  · have hI : ∀ k, k < 2 → Bd (A) (251 + 8 * k) U → Bd (mForget (up2 (mCopy (up2 A (250 + 8 * i) 0 1) (251 + 8 * i) 30) (250 + 8 * i) 2 (A 278 0))) (251 + 8 * k) U := fun k hk hb => by
      by_cases hki : k = i
      · subst hki
        exact Bd.at h.bd.1 hC
      · exact hb.of (fun x j _ _ => hA x j (by omega))
    exact ⟨h.bd.1.of (fun x j _ _ => hA x j (by omega)), fun k hk => (h.bd.2.1 k hk).of (fun x j _ _ => hA x j (by omega)), hI 0 (by omega) h.bd.2.2.1, hI 1 (by omega) h.bd.2.2.2⟩
  · exact ⟨⟨(up2_ne (by omega)).trans up2_same, by omega⟩, ⟨up2_same, up2_same, by omega⟩, fun k k1 k2 => absurd k2 (by omega)⟩
  · intro k hk
    by_cases hki : k = i
    · subst hki
      have x0 : mForget (up2 (mCopy (up2 A (250 + 8 * k) 0 1) (251 + 8 * k) 30) (250 + 8 * k) 2 (A 278 0)) (250 + 8 * k) 0 = 1 := (up2_ne (by omega)).trans ((up2_ne (by omega)).trans ((up2_ne (by omega)).trans ((mCopy_out (by omega)).trans up2_same)))
      have x2 : mForget (up2 (mCopy (up2 A (250 + 8 * k) 0 1) (251 + 8 * k) 30) (250 + 8 * k) 2 (A 278 0)) (250 + 8 * k) 2 = A 278 0 := (up2_ne (by omega)).trans ((up2_ne (by omega)).trans up2_same)
      have y0 : rKeep B k 302 k = 1 := (up2_ne (by omega)).trans up2_same
      have y1 : rKeep B k 301 (126 * k + 125) = B 279 9 := (up2_ne (by omega)).trans ((up2_ne (by omega)).trans up2_same)
      rw [x0, x2, y0, y1]
      refine ⟨⟨rfl, Or.inr rfl⟩, fun _ => ⟨⟨L, n, h.on.of hC (fun q hq => ?_)⟩, h.dr⟩⟩
      refine (up2_ne (by omega)).trans ((up2_ne (by omega)).trans ((up2_ne (by omega)).trans ((cp2_in (by omega) (by omega)).trans ?_)))
      exact congrArg (B 284) (by omega)
    · obtain ⟨h1, h2⟩ := h.im k hk
      rw [hA (250 + 8 * k) 0 (by omega), hA (250 + 8 * k) 2 (by omega), hB 302 k (by omega), hB 301 (126 * k + 125) (by omega)]
      refine ⟨h1, fun q => ?_⟩
      obtain ⟨⟨L1, n1, h3⟩, h4⟩ := h2 q
      exact ⟨⟨L1, n1, h3.of (fun q j hq => hA _ _ (by unfold Cnt at hq; omega)) (fun q hq => hB _ _ (by omega))⟩, h4⟩
theorem RelP.goBack {i : Nat} (h : RelP A B w U E T lt L n x c) (hi : i < 2) (hk : ¬ B 302 i = 0) : ∃ L1 n1, RelP (mForget (up2 (mCopy A 30 (251 + 8 * i)) 278 0 (A (250 + 8 * i) 2))) (rGoBack B i) w U E T lt L1 n1 0 0 := by
  have hOi := On_img hi
  have hi8 : i = 0 ∨ i = 1 := by omega
  obtain ⟨⟨L1, n1, hO⟩, hd⟩ := (h.im i hi).2 hk
  refine ⟨L1, n1, ?_⟩
  have hw := kdw h.cs
  have hw4 : 4 ≤ w := by rcases h.cs with q | q <;> omega
  have hA : ∀ yy jj, yy ≠ 37 ∧ yy ≠ 278 ∧ (yy < 30 ∨ 36 < yy) → (mForget (up2 (mCopy A 30 (251 + 8 * i)) 278 0 (A (250 + 8 * i) 2))) yy jj = A yy jj := fun yy jj hyy => (up2_ne (by omega)).trans ((up2_ne (by omega)).trans ((up2_ne (by omega)).trans (mCopy_out (by omega))))
  have hB : ∀ yy jj, (yy ≠ 279 ∨ (jj ≠ 33 ∧ jj ≠ 9)) ∧ yy ≠ 284 → (rGoBack B i) yy jj = B yy jj := fun yy jj hyy => (up2_ne (by omega)).trans ((up2_ne (by omega)).trans (cp2_ne (by omega)))
  have e : (mForget (up2 (mCopy A 30 (251 + 8 * i)) 278 0 (A (250 + 8 * i) 2))) w 1 = A w 1 := hA _ _ (by omega)
  unfold RelP
  rw [e]
  have hC : ∀ q j, Cnt q j → mForget (up2 (mCopy A 30 (251 + 8 * i)) 278 0 (A (250 + 8 * i) 2)) (30 + q) j = A (251 + 8 * i + q) j := fun q j hq => by
    have hq6 : q ≤ 6 := by unfold Cnt at hq; omega
    exact (up2_ne (by omega)).trans ((up2_ne (by omega)).trans ((up2_ne (by omega)).trans (mCopy_at hOi On_30 (by omega) hq)))
  have hbi : Bd A (251 + 8 * i) U := by
    rcases hi8 with q | q
    · rw [q]; exact h.bd.2.2.1
    · rw [q]; exact h.bd.2.2.2
  refine ⟨h.cs, h.u, h.rd.of (fun x j _ _ => hA x j (by omega)) (fun x j _ => hB x j (by omega)), h.ca.of (fun x j _ _ => hA x j (by omega)) (fun x j _ => hB x j (by omega)), ?_, ?_, ?_, h.im.of (fun x j _ _ => hA x j (by omega)) (fun x j _ => hB x j (by omega)), h.gu.of (fun x j _ _ => hA x j (by omega)) (fun x j _ => hB x j (by omega)), h.bo.of (fun x j _ _ => hA x j (by omega)) (fun x j _ => hB x j (by omega)), ?_⟩
  · refine hO.of hC (fun k hk => ?_)
    refine (up2_ne (by omega)).trans ((up2_ne (by omega)).trans ((cp2_in (by omega) (by omega)).trans ?_))
    exact congrArg (B 301) (by omega)
  · exact ⟨Bd.at hbi hC, fun k hk => (h.bd.2.1 k hk).of (fun x j _ _ => hA x j (by omega)), h.bd.2.2.1.of (fun x j _ _ => hA x j (by omega)), h.bd.2.2.2.of (fun x j _ _ => hA x j (by omega))⟩
  · exact ⟨⟨(up2_ne (by omega)).trans up2_same, by omega⟩, ⟨up2_same, up2_same, by omega⟩, fun k k1 k2 => absurd k2 (by omega)⟩
  · have x1 : mForget (up2 (mCopy A 30 (251 + 8 * i)) 278 0 (A (250 + 8 * i) 2)) 278 0 = A (250 + 8 * i) 2 := (up2_ne (by omega)).trans ((up2_ne (by omega)).trans up2_same)
    have y1 : rGoBack B i 279 9 = B 301 (126 * i + 125) := (up2_ne (by omega)).trans up2_same
    unfold DrR
    rw [x1, y1]
    exact hd
end Small
