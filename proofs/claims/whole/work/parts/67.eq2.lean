/-! ===== pure equalities: parts, questions ===== -/
theorem gw_min {S R : Nat → Int} {f : Nat} {big : Int} (hb : gw S R f (f + 1) ≤ big) : ∀ n, gw S R f (fpe S R f n) = fo (fun i b => min b (gw S R f (f + 1 + i))) (n + 1) big
  | 0 => by
    show gw S R f (f + 1) = min big (gw S R f (f + 1 + 0))
    rw [show f + 1 + 0 = f + 1 by omega]
    omega
  | n + 1 => by
    have ih := gw_min hb n
    show gw S R f (if gw S R f (f + 2 + n) < gw S R f (fpe S R f n) then f + 2 + n else fpe S R f n) = min (fo (fun i b => min b (gw S R f (f + 1 + i))) (n + 1) big) (gw S R f (f + 1 + (n + 1)))
    rw [← ih, show f + 1 + (n + 1) = f + 2 + n by omega]
    split <;> omega
theorem fpe_rng {S R : Nat → Int} {f : Nat} : ∀ n, f + 1 ≤ fpe S R f n ∧ fpe S R f n ≤ f + 1 + n
  | 0 => by show f + 1 ≤ f + 1 ∧ f + 1 ≤ f + 1 + 0; omega
  | n + 1 => by
    have ih := fpe_rng (S := S) (R := R) (f := f) n
    show f + 1 ≤ (if gw S R f (f + 2 + n) < gw S R f (fpe S R f n) then f + 2 + n else fpe S R f n) ∧ (if gw S R f (f + 2 + n) < gw S R f (fpe S R f n) then f + 2 + n else fpe S R f n) ≤ f + 1 + (n + 1)
    split <;> omega
theorem fpe_first {S R : Nat → Int} {f : Nat} : ∀ n x, f + 1 ≤ x → (x ≤ f + 1 + n → gw S R f (fpe S R f n) ≤ gw S R f x) ∧ (x < fpe S R f n → gw S R f (fpe S R f n) < gw S R f x)
  | 0, x, hx => by
    refine ⟨fun h => ?_, fun h => ?_⟩
    · rw [show x = f + 1 by omega]
      exact Int.le_refl _
    · have h' : x < f + 1 := h
      omega
  | n + 1, x, hx => by
    have hin := fpe_rng (S := S) (R := R) (f := f) n
    obtain ⟨i1, i2⟩ := fpe_first (S := S) (R := R) (f := f) n x hx
    have e : fpe S R f (n + 1) = if gw S R f (f + 2 + n) < gw S R f (fpe S R f n) then f + 2 + n else fpe S R f n := rfl
    rw [e]
    by_cases hc : gw S R f (f + 2 + n) < gw S R f (fpe S R f n)
    · rw [if_pos hc]
      refine ⟨fun h => ?_, fun h => ?_⟩
      · by_cases hxn : x = f + 2 + n
        · rw [hxn]
          exact Int.le_refl _
        · have := i1 (by omega)
          omega
      · have := i1 (by omega)
        omega
    · rw [if_neg hc]
      refine ⟨fun h => ?_, i2⟩
      by_cases hxn : x = f + 2 + n
      · rw [hxn]
        omega
      · exact i1 (by omega)
theorem fomin_le {g : Nat → Int} {big : Int} : ∀ n, fo (fun i b => min b (g i)) n big ≤ big
  | 0 => Int.le_refl _
  | n + 1 => by
    have ih := fomin_le (g := g) (big := big) n
    show min (fo (fun i b => min b (g i)) n big) (g n) ≤ big
    omega
theorem fomin_cut {g g' : Nat → Int} {big : Int} {N : Nat} : ∀ d, (∀ i, i < N → g i = g' i) → (∀ i, N ≤ i → i < N + d → big ≤ g i) → fo (fun i b => min b (g i)) (N + d) big = fo (fun i b => min b (g' i)) N big
  | 0, h, _ => fo_congr N big (fun k x hk => by show min x (g k) = min x (g' k); rw [h k hk])
  | d + 1, h, h2 => by
    have ih := fomin_cut d h (fun i h3 h4 => h2 i h3 (by omega))
    have hb := h2 (N + d) (by omega) (by omega)
    have hl := fomin_le (g := g') (big := big) N
    show min (fo (fun i b => min b (g i)) (N + d) big) (g (N + d)) = _
    rw [ih]
    omega
section Parts
variable {S : Nat → Int} {L : Nat}
theorem rPW_far : ∀ p j, 1 ≤ p → j ≤ L → L < j + p → rPW S L p j = 1000000
  | 0, j, h, _, _ => by omega
  | p + 1, j, _, hj, hp => by
    show (if j < L then fo (fun i b => min b (max (S (j + 1 + i) - S j) (rPW S L p (j + 1 + i)))) (L - j) 1000000 else 1000000) = 1000000
    by_cases hjl : j < L
    · rw [if_pos hjl]
      have h := fomin_cut (g := fun i => max (S (j + 1 + i) - S j) (rPW S L p (j + 1 + i))) (g' := fun _ => 0) (big := 1000000) (N := 0) (L - j) (fun i hi => absurd hi (by omega)) (fun i _ hi => ?_)
      · rw [show 0 + (L - j) = L - j by omega] at h
        exact h
      · show 1000000 ≤ max (S (j + 1 + i) - S j) (rPW S L p (j + 1 + i))
        rw [rPW_far p (j + 1 + i) (by omega) (by omega) (by omega)]
        omega
    · rw [if_neg hjl]
theorem PW_in (hS : ∀ i j, i ≤ j → j ≤ L → S i ≤ S j ∧ S j - S i ≤ 480) : ∀ q j, j + (q + 1) ≤ L → 0 ≤ PWF S L q j ∧ PWF S L q j ≤ 480
  | 0, j, hj => by
    have := hS j L (by omega) (Nat.le_refl L)
    show 0 ≤ S L - S j ∧ S L - S j ≤ 480
    omega
  | q + 1, j, hj => by
    have hin := fpe_rng (S := S) (R := PWF S L q) (f := j) (L - (q + 2) + 1 - (j + 1))
    have h1 := hS j (fpe S (PWF S L q) j (L - (q + 2) + 1 - (j + 1))) (by omega) (by omega)
    have h2 := PW_in hS q (fpe S (PWF S L q) j (L - (q + 2) + 1 - (j + 1))) (by omega)
    show 0 ≤ max (S (fpe S (PWF S L q) j (L - (q + 2) + 1 - (j + 1))) - S j) (PWF S L q (fpe S (PWF S L q) j (L - (q + 2) + 1 - (j + 1)))) ∧ max (S (fpe S (PWF S L q) j (L - (q + 2) + 1 - (j + 1))) - S j) (PWF S L q (fpe S (PWF S L q) j (L - (q + 2) + 1 - (j + 1)))) ≤ 480
    omega
theorem PW_eq (hS : ∀ i j, i ≤ j → j ≤ L → S i ≤ S j ∧ S j - S i ≤ 480) : ∀ q j, j + (q + 1) ≤ L → rPW S L (q + 1) j = PWF S L q j
  | 0, j, hj => by
    show (if j < L then fo (fun i b => min b (max (S (j + 1 + i) - S j) (if j + 1 + i = L then 0 else 1000000))) (L - j) 1000000 else 1000000) = S L - S j
    rw [if_pos (by omega)]
    obtain ⟨d, hd⟩ : ∃ d, L - j = d + 1 := ⟨L - j - 1, by omega⟩
    rw [hd]
    show min (fo (fun i b => min b (max (S (j + 1 + i) - S j) (if j + 1 + i = L then 0 else 1000000))) d 1000000) (max (S (j + 1 + d) - S j) (if j + 1 + d = L then 0 else 1000000)) = S L - S j
    have h := fomin_cut (g := fun i => max (S (j + 1 + i) - S j) (if j + 1 + i = L then 0 else 1000000)) (g' := fun _ => 0) (big := 1000000) (N := 0) d (fun i hi => absurd hi (by omega)) (fun i _ hi => ?_)
    · rw [show 0 + d = d by omega] at h
      have h' : fo (fun i b => min b (max (S (j + 1 + i) - S j) (if j + 1 + i = L then 0 else 1000000))) d 1000000 = 1000000 := h
      have hs := hS j L (by omega) (Nat.le_refl L)
      rw [h', if_pos (by omega), show j + 1 + d = L by omega]
      omega
    · show 1000000 ≤ max (S (j + 1 + i) - S j) (if j + 1 + i = L then 0 else 1000000)
      rw [if_neg (by omega)]
      omega
  | q + 1, j, hj => by
    have hg := gw_min (S := S) (R := PWF S L q) (f := j) (big := 1000000) (by
      have h1 := hS j (j + 1) (by omega) (by omega)
      have h2 := PW_in hS q (j + 1) (by omega)
      unfold gw
      omega) (L - (q + 2) + 1 - (j + 1))
    show (if j < L then fo (fun i b => min b (max (S (j + 1 + i) - S j) (rPW S L (q + 1) (j + 1 + i)))) (L - j) 1000000 else 1000000) = gw S (PWF S L q) j (fpe S (PWF S L q) j (L - (q + 2) + 1 - (j + 1)))
    rw [if_pos (by omega), hg]
    have h := fomin_cut (g := fun i => max (S (j + 1 + i) - S j) (rPW S L (q + 1) (j + 1 + i))) (g' := fun i => gw S (PWF S L q) j (j + 1 + i)) (big := 1000000) (N := L - (q + 2) + 1 - (j + 1) + 1) (q + 1) (fun i hi => ?_) (fun i h1 hi => ?_)
    · rw [show L - (q + 2) + 1 - (j + 1) + 1 + (q + 1) = L - j by omega] at h
      exact h
    · show max (S (j + 1 + i) - S j) (rPW S L (q + 1) (j + 1 + i)) = max (S (j + 1 + i) - S j) (PWF S L q (j + 1 + i))
      rw [PW_eq hS q (j + 1 + i) (by omega)]
    · show 1000000 ≤ max (S (j + 1 + i) - S j) (rPW S L (q + 1) (j + 1 + i))
      rw [rPW_far (q + 1) (j + 1 + i) (by omega) (by omega) (by omega)]
      omega
theorem FF_is (hS : ∀ i j, i ≤ j → j ≤ L → S i ≤ S j ∧ S j - S i ≤ 480) {n : Nat} (hn : 1 ≤ n) (hnL : n ≤ L) : (1 ≤ FFp S L (n - 1) ∧ FFp S L (n - 1) ≤ L) ∧ (S (FFp S L (n - 1)) - S 0 ≤ rPW S L n 0 ∧ rPW S L (n - 1) (FFp S L (n - 1)) ≤ rPW S L n 0) ∧ ∀ x, 1 ≤ x → x < FFp S L (n - 1) → rPW S L n 0 < S x - S 0 ∨ rPW S L n 0 < rPW S L (n - 1) x := by
  obtain ⟨q, rfl⟩ : ∃ q, n = q + 1 := ⟨n - 1, by omega⟩
  rw [show q + 1 - 1 = q by omega, PW_eq hS q 0 (by omega)]
  have hb := PW_in hS q 0 (by omega)
  cases q with
  | zero =>
    show (1 ≤ L ∧ L ≤ L) ∧ (S L - S 0 ≤ S L - S 0 ∧ (if L = L then (0 : Int) else 1000000) ≤ S L - S 0) ∧ ∀ x, 1 ≤ x → x < L → S L - S 0 < S x - S 0 ∨ S L - S 0 < (if x = L then (0 : Int) else 1000000)
    have hb' : 0 ≤ S L - S 0 ∧ S L - S 0 ≤ 480 := hb
    refine ⟨by omega, ⟨by omega, by rw [if_pos rfl]; omega⟩, fun x h1 h2 => Or.inr ?_⟩
    rw [if_neg (by omega)]
    omega
  | succ q =>
    have hin := fpe_rng (S := S) (R := PWF S L q) (f := 0) (L - (q + 2) + 1 - 1)
    have e : FFp S L (q + 1) = fpe S (PWF S L q) 0 (L - (q + 2) + 1 - 1) := rfl
    have e2 : PWF S L (q + 1) 0 = gw S (PWF S L q) 0 (FFp S L (q + 1)) := rfl
    rw [← e] at hin
    have e3 : gw S (PWF S L q) 0 (FFp S L (q + 1)) = max (S (FFp S L (q + 1)) - S 0) (PWF S L q (FFp S L (q + 1))) := rfl
    refine ⟨by omega, ⟨by omega, ?_⟩, fun x h1 h2 => ?_⟩
    · rw [PW_eq hS q _ (by omega)]
      omega
    · have h3 := (fpe_first (S := S) (R := PWF S L q) (f := 0) (L - (q + 2) + 1 - 1) x (by omega)).2 (by rw [← e]; exact h2)
      rw [← e] at h3
      have e4 : gw S (PWF S L q) 0 x = max (S x - S 0) (PWF S L q x) := rfl
      rw [PW_eq hS q x (by omega)]
      omega
end Parts
theorem rPW_congr {S S' : Nat → Int} {L : Nat} (h : ∀ j, j ≤ L → S j = S' j) : ∀ p j, j ≤ L → rPW S L p j = rPW S' L p j
  | 0, j, _ => rfl
  | p + 1, j, hj => by
    show (if j < L then fo (fun i b => min b (max (S (j + 1 + i) - S j) (rPW S L p (j + 1 + i)))) (L - j) 1000000 else 1000000) = (if j < L then fo (fun i b => min b (max (S' (j + 1 + i) - S' j) (rPW S' L p (j + 1 + i)))) (L - j) 1000000 else 1000000)
    by_cases hjl : j < L
    · rw [if_pos hjl, if_pos hjl]
      refine fo_congr (L - j) _ (fun k x hk => ?_)
      rw [h (j + 1 + k) (by omega), h j hj, rPW_congr h p (j + 1 + k) (by omega)]
    · rw [if_neg hjl, if_neg hjl]
theorem sum_mono {f : Nat → Int} {L : Nat} (hf : ∀ j, j < L → 0 ≤ f j ∧ f j ≤ 40) (hL : L ≤ 12) : ∀ i j, i ≤ j → j ≤ L → sumTo f i ≤ sumTo f j ∧ sumTo f j - sumTo f i ≤ 480 := by
  have h : ∀ d i, i + d ≤ L → sumTo f i ≤ sumTo f (i + d) ∧ sumTo f (i + d) - sumTo f i ≤ 40 * (d : Int) := by
    intro d
    induction d with
    | zero => intro i _; show sumTo f i ≤ sumTo f i ∧ sumTo f i - sumTo f i ≤ _; omega
    | succ d ih =>
      intro i hi
      have h1 := ih i (by omega)
      have h2 := hf (i + d) (by omega)
      have e : sumTo f (i + (d + 1)) = sumTo f (i + d) + f (i + d) := rfl
      rw [e]
      omega
  intro i j hij hj
  have := h (j - i) i (by omega)
  rw [show i + (j - i) = j by omega] at this
  omega
/-! what to ask -/
theorem plc_inj {x y : Int} (hx : -1 ≤ x ∧ x ≤ 4) (hy : -1 ≤ y ∧ y ≤ 4) : plc x = plc y ↔ x = y := by
  unfold plc
  split <;> split <;> omega
theorem cntTo_s (p : Nat → Bool) (n : Nat) : cntTo p (n + 1) = cntTo p n + (if p n = true then 1 else 0) := rfl
theorem cntTo_mono {p : Nat → Bool} : ∀ d n, cntTo p n ≤ cntTo p (n + d)
  | 0, n => Nat.le_refl _
  | d + 1, n => by
    have := cntTo_mono (p := p) d n
    have e : cntTo p (n + (d + 1)) = cntTo p (n + d) + (if p (n + d) = true then 1 else 0) := rfl
    omega
theorem gal_mono {s : Nat} {f : Nat → Int} : ∀ n, 0 ≤ fo (galG s f) n 0 ∧ fo (galG s f) n 0 ≤ fo (galG s f) (n + 1) 0
  | n => by
    have h0 : ∀ n, 0 ≤ fo (galG s f) n 0 ∧ fo (galG s f) n 0 ≤ galG s f n (fo (galG s f) n 0) := by
      intro n
      induction n with
      | zero =>
        refine ⟨Int.le_refl _, ?_⟩
        show (0 : Int) ≤ galG s f 0 0
        unfold galG
        split <;> omega
      | succ n ih =>
        have h1 : 0 ≤ fo (galG s f) (n + 1) 0 := Int.le_trans ih.1 ih.2
        refine ⟨h1, ?_⟩
        generalize fo (galG s f) (n + 1) 0 = g at h1 ⊢
        unfold galG
        split <;> omega
    exact h0 n
theorem gal_ge {s : Nat} {f : Nat → Int} {T : Nat} (hf : ∀ t, t < T → -1 ≤ f t ∧ f t ≤ 4) (v : Int) : ∀ n, n ≤ T → ((cntTo (fun t => inS s t && decide (f t = v)) n : Nat) : Int) ≤ fo (galG s f) n 0
  | 0, _ => Int.le_refl _
  | n + 1, hn => by
    have ih := gal_ge (s := s) hf v n (by omega)
    have hm := (gal_mono (s := s) (f := f) n).2
    rw [cntTo_s]
    by_cases hc : inS s n = true ∧ f n = v
    · have e : ∀ t, t < n + 1 → alk s f (plc (f n)) t = (inS s t && decide (f t = v)) := fun t ht => by
        unfold alk
        have h1 := plc_inj (hf t (by omega)) (hf n (by omega))
        rw [hc.2] at h1
        rw [hc.2]
        congr 1
        exact decide_eq_decide.mpr h1
      have e2 := cntTo_congr (n + 1) e
      rw [cntTo_s (fun t => inS s t && decide (f t = v))] at e2
      have e1 : fo (galG s f) (n + 1) 0 = if inS s n = true then max (fo (galG s f) n 0) ((cntTo (alk s f (plc (f n))) (n + 1) : Nat) : Int) else fo (galG s f) n 0 := rfl
      rw [e1, if_pos hc.1, e2, if_pos (by simpa using hc)]
      rw [if_pos (by simpa using hc)] at e2
      omega
    · rw [if_neg (by simpa using hc)]
      omega
theorem mx_ge {s : Nat} {f : Nat → Int} {T : Nat} : ∀ n, 0 ≤ fo (mxG s f T) n 0 ∧ ∀ a, a < n → ((cntTo (pB s f a) T : Nat) : Int) ≤ fo (mxG s f T) n 0
  | 0 => ⟨Int.le_refl _, fun a h => absurd h (by omega)⟩
  | n + 1 => by
    obtain ⟨i0, i1⟩ := mx_ge (s := s) (f := f) (T := T) n
    have e : fo (mxG s f T) (n + 1) 0 = max (fo (mxG s f T) n 0) ((cntTo (pB s f n) T : Nat) : Int) := rfl
    rw [e]
    refine ⟨by omega, fun a ha => ?_⟩
    by_cases h : a = n
    · rw [h]
      omega
    · have := i1 a (by omega)
      omega
theorem gal_eq {s : Nat} {f : Nat → Int} {T : Nat} (hf : ∀ t, t < T → -1 ≤ f t ∧ f t ≤ 4) : fo (galG s f) T 0 = fo (mxG s f T) T 0 := by
  have h1 : ∀ n, n ≤ T → fo (galG s f) n 0 ≤ fo (mxG s f T) T 0 := by
    intro n
    induction n with
    | zero => intro _; exact (mx_ge T).1
    | succ n ih =>
      intro hn
      have ih := ih (by omega)
      have e1 : fo (galG s f) (n + 1) 0 = if inS s n = true then max (fo (galG s f) n 0) ((cntTo (alk s f (plc (f n))) (n + 1) : Nat) : Int) else fo (galG s f) n 0 := rfl
      rw [e1]
      by_cases hc : inS s n = true
      · rw [if_pos hc]
        have e : ∀ t, t < n + 1 → alk s f (plc (f n)) t = pB s f n t := fun t ht => by
          unfold alk pB
          rw [hc, Bool.true_and]
          congr 1
          have h1 := plc_inj (hf t (by omega)) (hf n (by omega))
          exact decide_eq_decide.mpr ⟨fun q => (h1.mp q).symm, fun q => h1.mpr q.symm⟩
        rw [cntTo_congr (n + 1) e]
        have h2 := (mx_ge (s := s) (f := f) (T := T) T).2 n (by omega)
        have h3 := cntTo_mono (p := pB s f n) (T - (n + 1)) (n + 1)
        rw [show n + 1 + (T - (n + 1)) = T by omega] at h3
        omega
      · rw [if_neg hc]
        exact ih
  have h2 : ∀ n, n ≤ T → fo (mxG s f T) n 0 ≤ fo (galG s f) T 0 := by
    intro n
    induction n with
    | zero => intro _; exact (gal_mono T).1
    | succ n ih =>
      intro hn
      have ih := ih (by omega)
      have hg := gal_ge (s := s) hf (f n) T (Nat.le_refl T)
      have hle : cntTo (pB s f n) T ≤ cntTo (fun t => inS s t && decide (f t = f n)) T := by
        have hh : ∀ m, cntTo (pB s f n) m ≤ cntTo (fun t => inS s t && decide (f t = f n)) m := by
          intro m
          induction m with
          | zero => exact Nat.le_refl _
          | succ m ihm =>
            rw [cntTo_s, cntTo_s]
            have : (if pB s f n m = true then 1 else 0) ≤ (if (inS s m && decide (f m = f n)) = true then 1 else 0) := by
              by_cases hp : pB s f n m = true
              · have hq : (inS s m && decide (f m = f n)) = true := by
                  unfold pB at hp
                  simp only [Bool.and_eq_true, decide_eq_true_eq] at hp ⊢
                  exact ⟨hp.1.2, hp.2.symm⟩
                rw [if_pos hp, if_pos hq]
                exact Nat.le_refl _
              · rw [if_neg hp]
                exact Nat.zero_le _
            omega
        exact hh T
      show max (fo (mxG s f T) n 0) ((cntTo (pB s f n) T : Nat) : Int) ≤ _
      omega
  have a := h1 T (Nat.le_refl T)
  have b := h2 T (Nat.le_refl T)
  omega
set_option maxRecDepth 100000 in
theorem bits_64 : ∀ T, T < 7 → ∀ s, s < 64 → s < 2 ^ T → bitsJ s = cntTo (inS s) T := by decide +kernel
theorem set_lt {p : Nat → Bool} {T : Nat} : orTo (setG p) T < 2 ^ T := by
  refine orTo_lt T (fun j hj => ?_)
  unfold setG
  split
  · exact Nat.pow_lt_pow_right (by omega) hj
  · exact Nat.pow_pos (by omega)
theorem bits_set {p : Nat → Bool} {T : Nat} (hT : T ≤ 6) : bitsJ (orTo (setG p) T) = cntTo (inS (orTo (setG p) T)) T := by
  have h := set_lt (p := p) (T := T)
  have h6 : (2 : Nat) ^ T ≤ 2 ^ 6 := Nat.pow_le_pow_right (by omega) hT
  exact bits_64 T (by omega) _ (by omega) h
theorem ask_eq {s T : Nat} {f g : Nat → Nat → Int} {i : Int} (hf : ∀ k, k < 8 → ∀ t, t < T → (-1 ≤ f k t ∧ f k t ≤ 4) ∧ f k t = g k t) : fo (qG (fun k => fo (galG s (f k)) T 0)) 8 (-1, i) = fo (qG (fun k => fo (mxG s (g k) T) T 0)) 8 (-1, i) := by
  refine fo_congr 8 _ (fun k x hk => ?_)
  unfold qG
  have e : fo (galG s (f k)) T 0 = fo (mxG s (g k) T) T 0 := by
    rw [gal_eq (fun t ht => (hf k hk t ht).1)]
    refine fo_congr T _ (fun a y ha => ?_)
    unfold mxG
    rw [cntTo_congr T (fun t ht => ?_)]
    unfold pB
    rw [(hf k hk a ha).2, (hf k hk t ht).2]
  simp only [e]
