/-! ===== class and reference: the relation of two memories ===== -/
def Cnt (i j : Nat) : Prop := (i = 0 ∧ (j = 0 ∨ (7 ≤ j ∧ j ≤ 11))) ∨ (1 ≤ i ∧ i ≤ 2 ∧ j < 12) ∨ (3 ≤ i ∧ i ≤ 5 ∧ j < 5) ∨ (i = 6 ∧ j < 80)
/-- an onion O (its cells by number from its own) and a row R of the reference tell the same -/
def OR (O : Nat → Nat → Int) (R : Nat → Int) (mid : Int) (L n : Nat) : Prop :=
  (O 0 0 = (L : Int) ∧ R 0 = (L : Int) ∧ L ≤ 12) ∧ (∀ j, j < L → (O 1 j = R (j + 1) ∧ 0 ≤ O 1 j ∧ O 1 j ≤ 4) ∧ O 2 j = R (j + 13) ∧ 0 ≤ O 2 j ∧ O 2 j ≤ 20) ∧
  (∀ e, e < 5 → O 3 e = R (e + 29) ∧ O 4 e = R (e + 34) ∧ O 5 e = R (e + 39)) ∧ (O 0 8 = R 25 ∧ O 0 9 = R 26 ∧ R 27 = (if O 0 10 = 0 then 0 else mid) ∧ O 0 11 = R 28) ∧
  (O 0 7 = (n : Int) ∧ R 44 = (n : Int) ∧ n ≤ 20 ∧ ∀ i q, i < n → q < 4 → O 6 (i * 4 + q) = R (4 * (n - 1 - i) + 45 + q))
theorem OR.of {O O' : Nat → Nat → Int} {R R' : Nat → Int} {mid : Int} {L n : Nat} (hO : ∀ i j, Cnt i j → O' i j = O i j) (hR : ∀ k, k < 125 → R' k = R k) (h : OR O R mid L n) : OR O' R' mid L n := by
  obtain ⟨⟨a1, a2, a3⟩, b, c, ⟨d1, d2, d3, d4⟩, e1, e2, e3, e4⟩ := h
  refine ⟨⟨(hO 0 0 (by unfold Cnt; omega)).trans a1, (hR 0 (by omega)).trans a2, a3⟩, fun j hj => ?_, fun e he => ?_, ⟨?_, ?_, ?_, ?_⟩, (hO 0 7 (by unfold Cnt; omega)).trans e1, (hR 44 (by omega)).trans e2, e3, fun i q hi hq => ?_⟩
  · rw [hO 1 j (by unfold Cnt; omega), hO 2 j (by unfold Cnt; omega), hR (j + 1) (by omega), hR (j + 13) (by omega)]
    exact b j hj
  · rw [hO 3 e (by unfold Cnt; omega), hO 4 e (by unfold Cnt; omega), hO 5 e (by unfold Cnt; omega), hR (e + 29) (by omega), hR (e + 34) (by omega), hR (e + 39) (by omega)]
    exact c e he
  · rw [hO 0 8 (by unfold Cnt; omega), hR 25 (by omega)]
    exact d1
  · rw [hO 0 9 (by unfold Cnt; omega), hR 26 (by omega)]
    exact d2
  · rw [hO 0 10 (by unfold Cnt; omega), hR 27 (by omega)]
    exact d3
  · rw [hO 0 11 (by unfold Cnt; omega), hR 28 (by omega)]
    exact d4
  · rw [hO 6 _ (by unfold Cnt; omega), hR _ (by omega)]
    exact e4 i q hi hq
theorem OR.lay {A : inm} {a : Nat} {R : Nat → Int} {mid : Int} {L n : Nat} (h : OR (fun i => A (a + i)) R mid L n) : Lay A a L := ⟨h.1.1, h.1.2.2, fun j hj => (h.2.1 j hj).2.2, fun j hj => (h.2.1 j hj).1.2⟩
theorem OR.lay10 {O : Nat → Nat → Int} {B : inm} {mid : Int} {L n : Nat} (h : OR O (B 284) mid L n) : Lay10 B L := by
  refine ⟨h.1.2.1, h.1.2.2, fun j hj => ?_, fun j hj => ?_⟩
  · rw [← (h.2.1 j hj).2.1]
    exact (h.2.1 j hj).2.2
  · rw [← (h.2.1 j hj).1.1]
    exact (h.2.1 j hj).1.2
theorem OR.rb {A B : inm} {mid : Int} {L n U : Nat} (h : OR (fun i => A (30 + i)) (B 284) mid L n) (hb : Bd A 30 U) (hU : U ≤ 999999) : RB B L n U := by
  have h10 := h.lay10
  obtain ⟨-, -, c, ⟨d1, d2, -, d4⟩, e1, e2, e3, -⟩ := h
  obtain ⟨b1, b2, b3, b4, b5, b6, b7, b8, b9⟩ := hb
  refine ⟨h10, ⟨e2, e3⟩, fun e he => ?_, fun e he => ?_, fun e he => ?_, ?_, ?_, ?_, hU⟩
  · rw [← (c e he).1]
    exact b1 e he
  · rw [← (c e he).2.1]
    exact b2 e he
  · rw [← (c e he).2.2]
    exact b3 e he
  · rw [← d1]
    exact b5
  · rw [← d4]
    exact b6
  · rw [← d2]
    exact b7
def RdR (A B : inm) : Prop := (∃ m : Nat, A 1 2 = (m : Int) ∧ B 279 18 = (m : Int) ∧ m ≤ 240 ∧ ∀ j, A 2 j = B 290 j ∧ 0 ≤ A 2 j ∧ A 2 j ≤ 255) ∧ A 1 5 = B 279 19
def CaR (A B : inm) (w E T : Nat) (lt : Nat → Nat) : Prop := ((A w 0 = 0 ∨ A w 0 = 1) ∧ B 279 0 = A w 0 ∧ (A w 0 = 1 → B 279 1 = A w 1) ∧ (A w 0 = 0 → E = 0)) ∧ (A w 3 = (E : Int) ∧ B 279 2 = (E : Int) ∧ E ≤ 5) ∧ (∀ e, e < E → (A (w + 3) e = B 280 e ∧ 0 ≤ A (w + 3) e ∧ A (w + 3) e ≤ 9) ∧ A (w + 4) e = B 281 e ∧ 1 ≤ A (w + 4) e ∧ A (w + 4) e ≤ 9) ∧ (A w 4 = (T : Int) ∧ B 279 5 = (T : Int) ∧ T ≤ 6) ∧ ∀ t, t < T → (A (w + 5) t = (lt t : Int) ∧ B 282 t = (lt t : Int) ∧ lt t ≤ 8) ∧ ∀ k, k < lt t → A (w + 7 + t) k = B 283 (8 * t + k) ∧ 0 ≤ A (w + 7 + t) k ∧ A (w + 7 + t) k ≤ 4
def DeR (A B : inm) (mid : Int) (x c : Nat) : Prop := (A 37 1 = (x : Int) ∧ x < 30) ∧ (A 37 2 = (c : Int) ∧ B 279 33 = (c : Int) ∧ c ≤ 30) ∧ ∀ i, 1 ≤ i → i ≤ c → ∃ L n, OR (fun q => A (39 + 7 * ((x + 30 - i) % 30) + q)) (fun k => B 297 (125 * (c - i) + k)) mid L n
def ImR (A B : inm) (mid : Int) : Prop := ∀ i, i < 2 → (A (250 + 8 * i) 0 = B 302 i ∧ (B 302 i = 0 ∨ B 302 i = 1)) ∧ (¬ B 302 i = 0 → (∃ L n, OR (fun q => A (251 + 8 * i + q)) (fun k => B 301 (126 * i + k)) mid L n) ∧ A (250 + 8 * i) 2 = B 301 (126 * i + 125) ∧ 0 ≤ A (250 + 8 * i) 2 ∧ A (250 + 8 * i) 2 ≤ 2147483647)
def GuR (A B : inm) : Prop := ∃ c : Nat, A 266 3 = (c : Int) ∧ B 279 13 = (c : Int) ∧ c ≤ 6 ∧ ∃ gk : Nat → Nat, ∀ i, i < c → A 267 i = (gk i : Int) ∧ B 287 i = (gk i : Int) ∧ gk i < 8 ∧ A 268 i = B 288 i ∧ A 269 i = B 289 i ∧ (B 289 i = 0 ∨ B 289 i = 1)
def BoR (A B : inm) : Prop := ∃ c : Nat, A 270 2 = (c : Int) ∧ B 279 10 = (c : Int) ∧ c ≤ 20 ∧ ∀ i, i < c → A 271 i = B 285 i ∧ (0 ≤ A 271 i ∧ A 271 i ≤ 4) ∧ A 272 i = B 286 i
def DrR (A B : inm) : Prop := A 278 0 = B 279 9 ∧ 0 ≤ A 278 0 ∧ A 278 0 ≤ 2147483647
def BdA (A : inm) (U : Nat) : Prop := Bd A 30 U ∧ (∀ i, i < 30 → Bd A (39 + 7 * i) U) ∧ Bd A 251 U ∧ Bd A 259 U
theorem RdR.of {A B A' B' : inm} (hA : ∀ x j, 1 ≤ x → x ≤ 2 → A' x j = A x j) (hB : ∀ x j, (x = 279 ∧ (j = 18 ∨ j = 19)) ∨ x = 290 → B' x j = B x j) (h : RdR A B) : RdR A' B' := by
  obtain ⟨⟨m, h1, h2, h3, h4⟩, h5⟩ := h
  refine ⟨⟨m, (hA _ _ (by omega) (by omega)).trans h1, (hB _ _ (by omega)).trans h2, h3, fun j => ?_⟩, ?_⟩
  · rw [hA _ _ (by omega) (by omega), hB _ _ (by omega)]
    exact h4 j
  · rw [hA _ _ (by omega) (by omega), hB _ _ (by omega)]
    exact h5
theorem CaR.of {A B A' B' : inm} {w E T : Nat} {lt : Nat → Nat} (hA : ∀ x j, w ≤ x → x ≤ w + 12 → A' x j = A x j) (hB : ∀ x j, (x = 279 ∧ (j = 0 ∨ j = 1 ∨ j = 2 ∨ j = 5)) ∨ (280 ≤ x ∧ x ≤ 283) → B' x j = B x j) (h : CaR A B w E T lt) : CaR A' B' w E T lt := by
  obtain ⟨h1, h2, h3, h4, h5⟩ := h
  refine ⟨?_, ?_, fun e he => ?_, ?_, fun t ht => ?_⟩
  · rw [hA w 0 (by omega) (by omega), hA w 1 (by omega) (by omega), hB 279 0 (by omega), hB 279 1 (by omega)]
    exact h1
  · rw [hA w 3 (by omega) (by omega), hB 279 2 (by omega)]
    exact h2
  · rw [hA (w + 3) e (by omega) (by omega), hA (w + 4) e (by omega) (by omega), hB 280 e (by omega), hB 281 e (by omega)]
    exact h3 e he
  · rw [hA w 4 (by omega) (by omega), hB 279 5 (by omega)]
    exact h4
  · have h6 := h5 t ht
    have ht6 := h4.2.2
    refine ⟨?_, fun k hk => ?_⟩
    · rw [hA (w + 5) t (by omega) (by omega), hB 282 t (by omega)]
      exact h6.1
    · rw [hA (w + 7 + t) k (by omega) (by omega), hB 283 _ (by omega)]
      exact h6.2 k hk
theorem DeR.of {A B A' B' : inm} {mid : Int} {x c : Nat} (hA : ∀ x j, 37 ≤ x → x ≤ 248 → A' x j = A x j) (hB : ∀ x j, (x = 279 ∧ j = 33) ∨ x = 297 → B' x j = B x j) (h : DeR A B mid x c) : DeR A' B' mid x c := by
  obtain ⟨⟨h1, h2⟩, ⟨h3, h4, h5⟩, h6⟩ := h
  refine ⟨⟨(hA _ _ (by omega) (by omega)).trans h1, h2⟩, ⟨(hA _ _ (by omega) (by omega)).trans h3, (hB _ _ (by omega)).trans h4, h5⟩, fun i i1 i2 => ?_⟩
  obtain ⟨L, n, h7⟩ := h6 i i1 i2
  refine ⟨L, n, h7.of (fun q j hq => ?_) (fun k hk => hB _ _ (by omega))⟩
  unfold Cnt at hq
  have := Nat.mod_lt (x + 30 - i) (y := 30) (by omega)
  exact hA _ _ (by omega) (by omega)
theorem ImR.of {A B A' B' : inm} {mid : Int} (hA : ∀ x j, 249 ≤ x → x ≤ 265 → A' x j = A x j) (hB : ∀ x j, x = 301 ∨ x = 302 → B' x j = B x j) (h : ImR A B mid) : ImR A' B' mid := by
  intro i hi
  obtain ⟨h1, h2⟩ := h i hi
  rw [hA (250 + 8 * i) 0 (by omega) (by omega), hA (250 + 8 * i) 2 (by omega) (by omega), hB 302 i (by omega), hB 301 _ (by omega)]
  refine ⟨h1, fun q => ?_⟩
  obtain ⟨⟨L, n, h3⟩, h4⟩ := h2 q
  refine ⟨⟨L, n, h3.of (fun q j hq => ?_) (fun k hk => hB _ _ (by omega))⟩, h4⟩
  unfold Cnt at hq
  exact hA _ _ (by omega) (by omega)
theorem GuR.of {A B A' B' : inm} (hA : ∀ x j, 266 ≤ x → x ≤ 269 → A' x j = A x j) (hB : ∀ x j, (x = 279 ∧ j = 13) ∨ (287 ≤ x ∧ x ≤ 289) → B' x j = B x j) (h : GuR A B) : GuR A' B' := by
  obtain ⟨c, h1, h2, h3, gk, h4⟩ := h
  refine ⟨c, (hA _ _ (by omega) (by omega)).trans h1, (hB _ _ (by omega)).trans h2, h3, gk, fun i hi => ?_⟩
  rw [hA 267 i (by omega) (by omega), hA 268 i (by omega) (by omega), hA 269 i (by omega) (by omega), hB 287 i (by omega), hB 288 i (by omega), hB 289 i (by omega)]
  exact h4 i hi
theorem BoR.of {A B A' B' : inm} (hA : ∀ x j, 270 ≤ x → x ≤ 272 → A' x j = A x j) (hB : ∀ x j, (x = 279 ∧ j = 10) ∨ (285 ≤ x ∧ x ≤ 286) → B' x j = B x j) (h : BoR A B) : BoR A' B' := by
  obtain ⟨c, h1, h2, h3, h4⟩ := h
  refine ⟨c, (hA _ _ (by omega) (by omega)).trans h1, (hB _ _ (by omega)).trans h2, h3, fun i hi => ?_⟩
  rw [hA 271 i (by omega) (by omega), hA 272 i (by omega) (by omega), hB 285 i (by omega), hB 286 i (by omega)]
  exact h4 i hi
theorem DrR.of {A B A' B' : inm} (hA : ∀ x j, x = 278 → A' x j = A x j) (hB : ∀ x j, x = 279 ∧ j = 9 → B' x j = B x j) (h : DrR A B) : DrR A' B' := by
  unfold DrR at *
  rw [hA 278 0 rfl, hB 279 9 ⟨rfl, rfl⟩]
  exact h
theorem BdA.of {A A' : inm} {U : Nat} (hA : ∀ x j, 30 ≤ x → x ≤ 265 → A' x j = A x j) (h : BdA A U) : BdA A' U :=
  ⟨h.1.of (fun x j h1 h2 => hA x j (by omega) (by omega)), fun i hi => (h.2.1 i hi).of (fun x j h1 h2 => hA x j (by omega) (by omega)), h.2.2.1.of (fun x j h1 h2 => hA x j (by omega) (by omega)), h.2.2.2.of (fun x j h1 h2 => hA x j (by omega) (by omega))⟩
/-- the relation: A's cells are the class's, B's the reference's; w THE CASE's cell, U a bound of years -/
def RelP (A B : inm) (w U E T : Nat) (lt : Nat → Nat) (L n x c : Nat) : Prop := Cs w ∧ U ≤ 100000 ∧ RdR A B ∧ CaR A B w E T lt ∧ OR (fun i => A (30 + i)) (B 284) (A w 1) L n ∧ BdA A U ∧ DeR A B (A w 1) x c ∧ ImR A B (A w 1) ∧ GuR A B ∧ BoR A B ∧ DrR A B
def Rel (A B : inm) (w U : Nat) : Prop := ∃ (E T : Nat) (lt : Nat → Nat) (L n x c : Nat), RelP A B w U E T lt L n x c
section RelAcc
variable {A B A' B' : inm} {w U E T : Nat} {lt : Nat → Nat} {L n x c : Nat}
theorem RelP.cs (h : RelP A B w U E T lt L n x c) : Cs w := h.1
theorem RelP.u (h : RelP A B w U E T lt L n x c) : U ≤ 100000 := h.2.1
theorem RelP.rd (h : RelP A B w U E T lt L n x c) : RdR A B := h.2.2.1
theorem RelP.ca (h : RelP A B w U E T lt L n x c) : CaR A B w E T lt := h.2.2.2.1
theorem RelP.on (h : RelP A B w U E T lt L n x c) : OR (fun i => A (30 + i)) (B 284) (A w 1) L n := h.2.2.2.2.1
theorem RelP.bd (h : RelP A B w U E T lt L n x c) : BdA A U := h.2.2.2.2.2.1
theorem RelP.de (h : RelP A B w U E T lt L n x c) : DeR A B (A w 1) x c := h.2.2.2.2.2.2.1
theorem RelP.im (h : RelP A B w U E T lt L n x c) : ImR A B (A w 1) := h.2.2.2.2.2.2.2.1
theorem RelP.gu (h : RelP A B w U E T lt L n x c) : GuR A B := h.2.2.2.2.2.2.2.2.1
theorem RelP.bo (h : RelP A B w U E T lt L n x c) : BoR A B := h.2.2.2.2.2.2.2.2.2.1
theorem RelP.dr (h : RelP A B w U E T lt L n x c) : DrR A B := h.2.2.2.2.2.2.2.2.2.2
theorem RelP.any (h : RelP A B w U E T lt L n x c) : Rel A B w U := ⟨E, T, lt, L, n, x, c, h⟩
theorem RelP.of (hA : ∀ x j, x < 279 → ¬ (274 ≤ x ∧ x ≤ 277) → A' x j = A x j) (hB : ∀ x j, 279 ≤ x → ¬ (298 ≤ x ∧ x ≤ 300) → B' x j = B x j) (h : RelP A B w U E T lt L n x c) : RelP A' B' w U E T lt L n x c := by
  have hw := kdw h.cs
  have e : A' w 1 = A w 1 := hA _ _ (by omega) (by omega)
  unfold RelP
  rw [e]
  refine ⟨h.cs, h.u, h.rd.of (fun x j _ _ => hA x j (by omega) (by omega)) (fun x j _ => hB x j (by omega) (by omega)), h.ca.of (fun x j _ _ => hA x j (by omega) (by omega)) (fun x j _ => hB x j (by omega) (by omega)), h.on.of (fun i j q => hA _ _ (by unfold Cnt at q; omega) (by unfold Cnt at q; omega)) (fun k _ => hB _ _ (by omega) (by omega)), h.bd.of (fun x j _ _ => hA x j (by omega) (by omega)), h.de.of (fun x j _ _ => hA x j (by omega) (by omega)) (fun x j _ => hB x j (by omega) (by omega)), h.im.of (fun x j _ _ => hA x j (by omega) (by omega)) (fun x j _ => hB x j (by omega) (by omega)), h.gu.of (fun x j _ _ => hA x j (by omega) (by omega)) (fun x j _ => hB x j (by omega) (by omega)), h.bo.of (fun x j _ _ => hA x j (by omega) (by omega)) (fun x j _ => hB x j (by omega) (by omega)), h.dr.of (fun x j _ => hA x j (by omega) (by omega)) (fun x j _ => hB x j (by omega) (by omega))⟩
/-- another onion -/
theorem RelP.onion {U' L' n' : Nat} (h : RelP A B w U E T lt L n x c) (hA : ∀ x j, x < 279 → (x < 30 ∨ 36 < x) → A' x j = A x j) (hB : ∀ x j, 279 ≤ x → x ≠ 284 → B' x j = B x j) (hO : OR (fun i => A' (30 + i)) (B' 284) (A w 1) L' n') (hU : U ≤ U') (hU1 : U' ≤ 100000) (hb : Bd A' 30 U') : RelP A' B' w U' E T lt L' n' x c := by
  have hw := kdw h.cs
  have e : A' w 1 = A w 1 := hA _ _ (by omega) (by omega)
  unfold RelP
  rw [e]
  refine ⟨h.cs, hU1, h.rd.of (fun x j _ _ => hA x j (by omega) (by omega)) (fun x j _ => hB x j (by omega) (by omega)), h.ca.of (fun x j _ _ => hA x j (by omega) (by omega)) (fun x j _ => hB x j (by omega) (by omega)), hO, ⟨hb, fun i hi => ((h.bd.2.1 i hi).mono hU (by omega)).of (fun x j _ _ => hA x j (by omega) (by omega)), (h.bd.2.2.1.mono hU (by omega)).of (fun x j _ _ => hA x j (by omega) (by omega)), (h.bd.2.2.2.mono hU (by omega)).of (fun x j _ _ => hA x j (by omega) (by omega))⟩, h.de.of (fun x j _ _ => hA x j (by omega) (by omega)) (fun x j _ => hB x j (by omega) (by omega)), h.im.of (fun x j _ _ => hA x j (by omega) (by omega)) (fun x j _ => hB x j (by omega) (by omega)), h.gu.of (fun x j _ _ => hA x j (by omega) (by omega)) (fun x j _ => hB x j (by omega) (by omega)), h.bo.of (fun x j _ _ => hA x j (by omega) (by omega)) (fun x j _ => hB x j (by omega) (by omega)), h.dr.of (fun x j _ => hA x j (by omega) (by omega)) (fun x j _ => hB x j (by omega) (by omega))⟩
theorem RelP.draw {z : Int} (h : RelP A B w U E T lt L n x c) (hz : 0 ≤ z ∧ z ≤ 2147483647) : RelP (up2 A 278 0 z) (up2 B 279 9 z) w U E T lt L n x c := by
  have hw := kdw h.cs
  have hA : ∀ x j, x ≠ 278 → up2 A 278 0 z x j = A x j := fun x j hx => up2_ne (by omega)
  have hB : ∀ x j, x ≠ 279 ∨ j ≠ 9 → up2 B 279 9 z x j = B x j := fun x j hx => up2_ne (by omega)
  have e : up2 A 278 0 z w 1 = A w 1 := hA _ _ (by omega)
  unfold RelP
  rw [e]
  refine ⟨h.cs, h.u, h.rd.of (fun x j _ _ => hA x j (by omega)) (fun x j _ => hB x j (by omega)), h.ca.of (fun x j _ _ => hA x j (by omega)) (fun x j _ => hB x j (by omega)), h.on.of (fun i j q => hA _ _ (by unfold Cnt at q; omega)) (fun k _ => hB _ _ (by omega)), h.bd.of (fun x j _ _ => hA x j (by omega)), h.de.of (fun x j _ _ => hA x j (by omega)) (fun x j _ => hB x j (by omega)), h.im.of (fun x j _ _ => hA x j (by omega)) (fun x j _ => hB x j (by omega)), h.gu.of (fun x j _ _ => hA x j (by omega)) (fun x j _ => hB x j (by omega)), h.bo.of (fun x j _ _ => hA x j (by omega)) (fun x j _ => hB x j (by omega)), ?_⟩
  unfold DrR
  rw [up2_same, up2_same]
  exact ⟨rfl, hz⟩
theorem RelP.mono {V : Nat} (h : RelP A B w U E T lt L n x c) (hU : U ≤ V) (hV : V ≤ 100000) : RelP A B w V E T lt L n x c :=
  ⟨h.cs, hV, h.rd, h.ca, h.on, ⟨h.bd.1.mono hU (by omega), fun i hi => (h.bd.2.1 i hi).mono hU (by omega), h.bd.2.2.1.mono hU (by omega), h.bd.2.2.2.mono hU (by omega)⟩, h.de, h.im, h.gu, h.bo, h.dr⟩
end RelAcc
theorem Bd.at {A A' : inm} {a b U : Nat} (h : Bd A a U) (hO : ∀ i j, Cnt i j → A' (b + i) j = A (a + i) j) : Bd A' b U := by
  obtain ⟨b1, b2, b3, b4, b5, b6, b7, b8, b9⟩ := h
  have e : ∀ j, (j = 0 ∨ (7 ≤ j ∧ j ≤ 11)) → A' b j = A a j := fun j hj => hO 0 j (by unfold Cnt; omega)
  unfold Bd
  rw [e 7 (by omega), e 8 (by omega), e 9 (by omega), e 10 (by omega), e 11 (by omega)]
  refine ⟨fun q hq => ?_, fun q hq => ?_, fun q hq => ?_, b4, b5, b6, b7, b8, b9⟩
  · rw [hO 3 q (by unfold Cnt; omega)]
    exact b1 q hq
  · rw [hO 4 q (by unfold Cnt; omega)]
    exact b2 q hq
  · rw [hO 5 q (by unfold Cnt; omega)]
    exact b3 q hq
