/-! ===== pure equalities: what the class answers is what the reference answers ===== -/
theorem sure_eq (p : Nat → Bool) : sureC p 5 0 (-1) = if (fo (sureG p) 5 (-1, 0)).2 = 1 then (fo (sureG p) 5 (-1, 0)).1 else -1 := by
  have h : ∀ b0 b1 b2 b3 b4 : Bool, sureC (fun i => if i = 0 then b0 else if i = 1 then b1 else if i = 2 then b2 else if i = 3 then b3 else b4) 5 0 (-1) = if (fo (sureG (fun i => if i = 0 then b0 else if i = 1 then b1 else if i = 2 then b2 else if i = 3 then b3 else b4)) 5 (-1, 0)).2 = 1 then (fo (sureG (fun i => if i = 0 then b0 else if i = 1 then b1 else if i = 2 then b2 else if i = 3 then b3 else b4)) 5 (-1, 0)).1 else -1 := by decide
  have h2 := h (p 0) (p 1) (p 2) (p 3) (p 4)
  simp only [sureC, fo, sureG] at h2 ⊢
  simpa using h2
theorem env_eq {g : Nat → Int} {E : Nat} (hE : 1 ≤ E) (hg : ∀ e, e < E → 0 ≤ g e ∧ g e ≤ 20000) : spreadV g E = (fo (envG g) E (-1, 1000000)).1 - (fo (envG g) E (-1, 1000000)).2 := by
  have h : ∀ n, 1 ≤ n → n ≤ E → (fo (envG g) n (-1, 1000000)).1 = (fo (fun e (s : Int × Int) => (min s.1 (g e), max s.2 (g e))) n (g 0, g 0)).2 ∧ (fo (envG g) n (-1, 1000000)).2 = (fo (fun e (s : Int × Int) => (min s.1 (g e), max s.2 (g e))) n (g 0, g 0)).1 := by
    intro n
    induction n with
    | zero => intro h; omega
    | succ n ih =>
      intro _ hn
      have hgn := hg n (by omega)
      by_cases h0 : n = 0
      · subst h0
        show (if (-1 : Int) < g 0 then g 0 else -1) = max (g 0) (g 0) ∧ (if g 0 < (1000000 : Int) then g 0 else 1000000) = min (g 0) (g 0)
        rw [if_pos (by omega), if_pos (by omega)]
        omega
      · obtain ⟨i1, i2⟩ := ih (by omega) (by omega)
        show (envG g n (fo (envG g) n (-1, 1000000))).1 = max _ (g n) ∧ (envG g n (fo (envG g) n (-1, 1000000))).2 = min _ (g n)
        unfold envG
        rw [← i1, ← i2]
        constructor
        · show (if (fo (envG g) n (-1, 1000000)).1 < g n then g n else (fo (envG g) n (-1, 1000000)).1) = _
          split <;> omega
        · show (if g n < (fo (envG g) n (-1, 1000000)).2 then g n else (fo (envG g) n (-1, 1000000)).2) = _
          split <;> omega
  obtain ⟨i1, i2⟩ := h E hE (Nat.le_refl E)
  unfold spreadV
  rw [i1, i2]
theorem weep_eq {T : Nat → Int} {E : Nat} (hT : ∀ e, e < E → 0 ≤ T e) : (fo (weepG T) E (-1, -1)).1 = if E = 0 then -1 else ((argX T E : Nat) : Int) := by
  have h : ∀ n, n ≤ E → 1 ≤ n → argX T n < n ∧ fo (weepG T) n (-1, -1) = (((argX T n : Nat) : Int), T (argX T n)) := by
    intro n
    induction n with
    | zero => intro _ h; omega
    | succ n ih =>
      intro hn _
      by_cases h0 : n = 0
      · subst h0
        have := hT 0 (by omega)
        refine ⟨by simp [argX, fo], ?_⟩
        have e0 : argX T (0 + 1) = 0 := by simp [argX, fo]
        rw [e0]
        show weepG T 0 (-1, -1) = _
        unfold weepG
        exact if_pos (by show (-1 : Int) < T 0; omega)
      · obtain ⟨i0, i1⟩ := ih (by omega) (by omega)
        have e1 : argX T (n + 1) = if T (argX T n) < T n then n else argX T n := rfl
        refine ⟨by rw [e1]; split <;> omega, ?_⟩
        show weepG T n (fo (weepG T) n (-1, -1)) = _
        rw [i1, e1]
        unfold weepG
        by_cases hc : T (argX T n) < T n
        · rw [if_pos hc, if_pos hc]
        · rw [if_neg hc, if_neg hc]
  by_cases h0 : E = 0
  · subst h0
    rfl
  · rw [if_neg h0, (h E (Nat.le_refl E) (by omega)).2]
theorem argX_congr {T T' : Nat → Int} : ∀ n, (∀ e, e < max n 1 → T e = T' e) → argX T n = argX T' n ∧ argX T n < max n 1
  | 0, _ => ⟨rfl, by show 0 < _; omega⟩
  | n + 1, h => by
    obtain ⟨i1, i2⟩ := argX_congr n (fun e he => h e (by omega))
    have e1 : argX T (n + 1) = if T (argX T n) < T n then n else argX T n := rfl
    have e2 : argX T' (n + 1) = if T' (argX T' n) < T' n then n else argX T' n := rfl
    rw [e1, e2, ← i1, h (argX T n) (by omega), h n (by omega)]
    exact ⟨rfl, by split <;> omega⟩
theorem cut_congr {t t' : Nat → Int} {L : Nat} (h : ∀ j, j < L → t j = t' j) : cutV t L = cutV t' L := by
  unfold cutV
  refine fst1_congr L 0 (fun j _ hj => ?_)
  rw [sumTo_congr L h, sumTo_congr (j + 1) (fun i hi => h i (by omega))]
theorem kind_congr {lt : Nat → Nat} {K K' : Nat → Nat → Int} {t k : Nat} (h : k < lt t → K t k = K' t k) : kindV lt K t k = kindV lt K' t k := by
  unfold kindV
  split
  · rename_i q
    exact h q
  · rfl
theorem beg_congr {lt : Nat → Nat} {K K' : Nat → Nat → Int} {c c' : Nat → Int} {L t : Nat} (h : ∀ k, k < lt t → K t k = K' t k) (hc : ∀ j, j < L → c j = c' j) : begV lt K c L t = begV lt K' c' L t := by
  unfold begV
  refine allTo_congr _ (fun k hk => ?_)
  rw [h k (by omega), hc k (by omega)]
theorem set_congr {p q : Nat → Bool} {T : Nat} (h : ∀ t, t < T → p t = q t) : orTo (setG p) T = orTo (setG q) T := by
  refine orTo_congr T (fun t ht => ?_)
  unfold setG
  rw [h t ht]
theorem next_congr {lt : Nat → Nat} {K K' : Nat → Nat → Int} {c c' : Nat → Int} {L T : Nat} {u : Int} (h : ∀ t, t < T → ∀ k, k < lt t → K t k = K' t k) (hc : ∀ j, j < L → c j = c' j) : cntTo (nextP lt K c L u) T = cntTo (nextP lt K' c' L u) T := by
  refine cntTo_congr T (fun t ht => ?_)
  unfold nextP
  rw [beg_congr (h t ht) hc, kind_congr (h t ht L)]
theorem law_congr {c c' : Nat → Int} {L : Nat} (h : ∀ j, j < L → c j = c' j) : orTo (lawG c) (max L 1) = orTo (lawG c') (max L 1) := by
  refine orTo_congr _ (fun k hk => ?_)
  unfold lawG
  by_cases h0 : k = 0
  · rw [if_pos h0, if_pos h0]
  · rw [if_neg h0, if_neg h0, h (k - 1) (by omega), h k (by omega)]
theorem dry_congr {T T' q q' : Nat → Int} {E : Nat} (h : ∀ e, e < E → T e = T' e ∧ q e = q' e) : fo (dryG T q) E 0 = fo (dryG T' q') E 0 := by
  refine fo_congr E _ (fun k x hk => ?_)
  unfold dryG
  rw [(h k hk).1, (h k hk).2]
theorem best_sum {f : Nat → Int} : ∀ n, (fo (bestG f) n (0, 0)).2 = sumTo f (fo (bestG f) n (0, 0)).1.toNat
  | 0 => rfl
  | n + 1 => by
    have ih := best_sum (f := f) n
    have e : fo (bestG f) (n + 1) (0, 0) = if (fo (bestG f) n (0, 0)).2 < sumTo f (n + 1) then (((n + 1 : Nat) : Int), sumTo f (n + 1)) else fo (bestG f) n (0, 0) := rfl
    rw [e]
    by_cases h : (fo (bestG f) n (0, 0)).2 < sumTo f (n + 1)
    · rw [if_pos h]
      rfl
    · rw [if_neg h]
      exact ih
theorem best_congr {f g : Nat → Int} {L : Nat} (h : ∀ j, j < L → f j = g j) : fo (bestG f) L (0, 0) = fo (bestG g) L (0, 0) := by
  refine fo_congr L _ (fun k x hk => ?_)
  unfold bestG
  rw [sumTo_congr (k + 1) (fun j hj => h j (by omega))]
theorem gain_congr {c c' t t' : Nat → Int} {r r' : Int} {k : Nat} (h1 : c k = c' k) (h2 : t k = t' k) (h3 : r = r') : gainF c t r k = gainF c' t' r' k := by
  unfold gainF
  rw [h1, h2, h3]
theorem bt_congr {W W' : Nat → Int} {L : Nat} (h : ∀ j, j < L → W j = W' j) : ∀ d, d ≤ L → btS W L d = btS W' L d
  | 0, _ => rfl
  | d + 1, hd => by
    have ih := bt_congr h d (by omega)
    unfold btS
    rw [ih, h (L - 1) (by omega), h (L - (d + 1)) (by omega)]
    by_cases h0 : d = 0
    · rw [if_pos h0, if_pos h0]
    · rw [if_neg h0, if_neg h0, h (L - (d + 1) + 1) (by omega)]
theorem under_congr {u l l' : Nat} {c c' : Nat → Int} {L : Nat} (hl : l = l') (h : ∀ j, j < L → c j = c' j) : orTo (underG u l c) L = orTo (underG u l' c') L := by
  subst hl
  refine orTo_congr L (fun k hk => ?_)
  unfold underG
  rw [h k hk]
theorem sh_congr {W W' g g' : Nat → Int} {E : Nat} {k : Int} (hE : E ≤ 5) (hg : ∀ j, j < 5 → g j = g' j) : ∀ n, (∀ i, i < n → W i = W' i) → (fo (shG W E k) n (g, -1)).2 = (fo (shG W' E k) n (g', -1)).2 ∧ ∀ j, j < 5 → (fo (shG W E k) n (g, -1)).1 j = (fo (shG W' E k) n (g', -1)).1 j
  | 0, _ => ⟨rfl, hg⟩
  | n + 1, hW => by
    obtain ⟨i1, i2⟩ := sh_congr hE hg n (fun i hi => hW i (by omega))
    have ea : argm (fo (shG W E k) n (g, -1)).1 E = argm (fo (shG W' E k) n (g', -1)).1 E := argm_congr E (fun j hj => i2 j (by omega))
    refine ⟨?_, fun j hj => ?_⟩
    · show (if (n : Int) = k then ((argm (fo (shG W E k) n (g, -1)).1 E : Nat) : Int) else (fo (shG W E k) n (g, -1)).2) = (if (n : Int) = k then ((argm (fo (shG W' E k) n (g', -1)).1 E : Nat) : Int) else (fo (shG W' E k) n (g', -1)).2)
      rw [ea, i1]
    · show (if j = argm (fo (shG W E k) n (g, -1)).1 E then (fo (shG W E k) n (g, -1)).1 j + W n else (fo (shG W E k) n (g, -1)).1 j) = (if j = argm (fo (shG W' E k) n (g', -1)).1 E then (fo (shG W' E k) n (g', -1)).1 j + W' n else (fo (shG W' E k) n (g', -1)).1 j)
      rw [ea, i2 j hj, hW n (by omega)]
/-! the longest run -/
def RowIs (c : Nat → Int) (K k r : Nat) : Prop := (1 ≤ r ∧ k + r ≤ K) ∧ (∀ i, k ≤ i → i < k + r → c i = c k) ∧ (k + r < K → ¬ c (k + r) = c k)
theorem RowIs.uniq {c : Nat → Int} {K k r s : Nat} (h : RowIs c K k r) (g : RowIs c K k s) : r = s := by
  rcases Nat.lt_trichotomy r s with q | q | q
  · exact absurd (g.2.1 (k + r) (by omega) (by omega)) (h.2.2 (by have := g.1; omega))
  · exact q
  · exact absurd (h.2.1 (k + s) (by omega) (by omega)) (g.2.2 (by have := h.1; omega))
theorem rowL_is {c : Nat → Int} {k0 : Nat} : ∀ d k, k0 < k → (∀ i, k0 ≤ i → i < k → c i = c k0) → RowIs c (k + d) k0 (rowL c k0 d k)
  | 0, k, hk, h => by
    show RowIs c (k + 0) k0 (k - k0)
    exact ⟨⟨by omega, by omega⟩, fun i h1 h2 => h i h1 (by omega), fun q => absurd q (by omega)⟩
  | d + 1, k, hk, h => by
    show RowIs c (k + (d + 1)) k0 (if c k = c k0 then rowL c k0 d (k + 1) else k - k0)
    by_cases hc : c k = c k0
    · rw [if_pos hc, show k + (d + 1) = k + 1 + d by omega]
      refine rowL_is d (k + 1) (by omega) (fun i h1 h2 => ?_)
      by_cases hi : i = k
      · rw [hi]; exact hc
      · exact h i h1 (by omega)
    · rw [if_neg hc]
      refine ⟨⟨by omega, by omega⟩, fun i h1 h2 => h i h1 (by omega), fun _ => ?_⟩
      rw [show k0 + (k - k0) = k by omega]
      exact hc
theorem row_is {c : Nat → Int} {L k : Nat} (h : k < L) : RowIs c L k (rowL c k (L - (k + 1)) (k + 1)) := by
  have q := rowL_is (c := c) (k0 := k) (L - (k + 1)) (k + 1) (by omega) (fun i h1 h2 => by rw [show i = k by omega])
  rwa [show k + 1 + (L - (k + 1)) = L by omega] at q
def LongIs (c : Nat → Int) (K N : Nat) (s : Int × Int) : Prop := (N = 0 ∧ s = (-1, 0)) ∨ ∃ b m : Nat, s = ((b : Int), (m : Int)) ∧ b < N ∧ RowIs c K b m ∧ ∀ j r, j < N → RowIs c K j r → r ≤ m ∧ (j < b → r < m)
theorem long_is {c : Nat → Int} {L : Nat} : ∀ n, n ≤ L → LongIs c L n (fo (longG c L) n (-1, 0))
  | 0, _ => Or.inl ⟨rfl, rfl⟩
  | n + 1, hn => by
    have hr := row_is (c := c) (L := L) (k := n) (by omega)
    show LongIs c L (n + 1) (longG c L n (fo (longG c L) n (-1, 0)))
    rcases long_is (c := c) (L := L) n (by omega) with ⟨h0, hs⟩ | ⟨b, m, hs, hb, hm, hj⟩
    · subst h0
      rw [hs]
      unfold longG
      have h1 := hr.1.1
      rw [if_pos (by show (0 : Int) < _; omega)]
      refine Or.inr ⟨0, _, rfl, by omega, hr, fun j r hj hjr => ?_⟩
      rw [show j = 0 by omega] at hjr ⊢
      rw [hjr.uniq hr]
      exact ⟨Nat.le_refl _, fun q => absurd q (by omega)⟩
    · rw [hs]
      unfold longG
      by_cases hlt : (m : Int) < ((rowL c n (L - (n + 1)) (n + 1) : Nat) : Int)
      · rw [if_pos hlt]
        refine Or.inr ⟨n, _, rfl, by omega, hr, fun j r hj1 hjr => ?_⟩
        by_cases hjn : j = n
        · subst hjn
          rw [hjr.uniq hr]
          exact ⟨Nat.le_refl _, fun q => absurd q (by omega)⟩
        · have := (hj j r (by omega) hjr).1
          exact ⟨by omega, fun _ => by omega⟩
      · rw [if_neg hlt]
        refine Or.inr ⟨b, m, rfl, by omega, hm, fun j r hj1 hjr => ?_⟩
        by_cases hjn : j = n
        · subst hjn
          rw [hjr.uniq hr]
          exact ⟨by omega, fun q => absurd q (by omega)⟩
        · exact hj j r (by omega) hjr
theorem LongIs.uniq {c : Nat → Int} {K : Nat} {s t : Int × Int} (h : LongIs c K K s) (g : LongIs c K K t) : s = t := by
  rcases h with ⟨h0, hs⟩ | ⟨b, m, hs, hb, hm, hj⟩
  · rcases g with ⟨_, ht⟩ | ⟨b', m', ht, hb', hm', hj'⟩
    · rw [hs, ht]
    · omega
  · rcases g with ⟨g0, ht⟩ | ⟨b', m', ht, hb', hm', hj'⟩
    · omega
    · have a1 := hj b' m' hb' hm'
      have a2 := hj' b m hb hm
      have e1 : m = m' := by omega
      have e2 : b = b' := by
        rcases Nat.lt_trichotomy b b' with q | q | q
        · have := a2.2 q; omega
        · exact q
        · have := a1.2 q; omega
      rw [hs, ht, e1, e2]
theorem rn_is {c : Nat → Int} : ∀ K, 1 ≤ K → (∃ f : Nat, (rnS c K).1 = (f : Int) ∧ f < K ∧ (∀ i, f ≤ i → i < K → c i = c f) ∧ (f = 0 ∨ ¬ c (f - 1) = c f)) ∧ LongIs c K K (rnS c K).2
  | 0, h => by omega
  | K + 1, _ => by
    have key : ∀ (f f' : Nat) (s : Int × Int), (rnS c K).2 = s → LongIs c K K s → rnF c K (rnS c K).1 = (f' : Int) → f' ≤ K → (∀ i, f' ≤ i → i < K + 1 → c i = c f') → (f' = 0 ∨ ¬ c (f' - 1) = c f') → (∃ f : Nat, (rnS c (K + 1)).1 = (f : Int) ∧ f < K + 1 ∧ (∀ i, f ≤ i → i < K + 1 → c i = c f) ∧ (f = 0 ∨ ¬ c (f - 1) = c f)) ∧ LongIs c (K + 1) (K + 1) (rnS c (K + 1)).2 := by
      intro f f' s hs hl hf hfK hrun hst
      have e0 : rnS c (K + 1) = ((f' : Int), if s.2 < (K : Int) - (f' : Int) + 1 then (f' : Int) else s.1, if s.2 < (K : Int) - (f' : Int) + 1 then (K : Int) - (f' : Int) + 1 else s.2) := by
        show (rnF c K (rnS c K).1, _, _) = _
        rw [hf, hs]
      rw [e0]
      refine ⟨⟨f', rfl, by omega, hrun, hst⟩, ?_⟩
      have down : ∀ j r, j < f' → RowIs c (K + 1) j r → RowIs c K j r := fun j r hj hr => by
        have hle : j + r ≤ f' := by
          rcases Nat.lt_or_ge f' (j + r) with q | q
          · have q1 := hr.2.1 f' (by omega) q
            have q2 := hr.2.1 (f' - 1) (by omega) (by omega)
            rcases hst with q3 | q3
            · omega
            · exact absurd (q2.trans q1.symm) q3
          · exact q
        exact ⟨⟨hr.1.1, by omega⟩, hr.2.1, fun q => hr.2.2 (by omega)⟩
      have up : ∀ j r, j < f' → RowIs c K j r → RowIs c (K + 1) j r := fun j r hj hr => by
        refine ⟨⟨hr.1.1, by have := hr.1.2; omega⟩, hr.2.1, fun q => ?_⟩
        rcases Nat.lt_or_ge (j + r) K with q1 | q1
        · exact hr.2.2 q1
        · have e1 : j + r = K := by have := hr.1.2; omega
          rcases Nat.lt_or_ge f' K with q2 | q2
          · have q3 := hr.2.1 f' (by omega) (by omega)
            have q4 := hr.2.1 (f' - 1) (by omega) (by omega)
            rcases hst with q5 | q5
            · omega
            · exact absurd (q4.trans q3.symm) q5
          · have e2 : f' = K := by omega
            have q4 := hr.2.1 (f' - 1) (by omega) (by omega)
            rcases hst with q5 | q5
            · omega
            · rw [e1, ← e2]
              intro q6
              exact q5 (q4.trans q6.symm)
      have tail : ∀ j r, f' ≤ j → RowIs c (K + 1) j r → r = K + 1 - j := fun j r hj hr => by
        rcases Nat.lt_or_ge (j + r) (K + 1) with q | q
        · exact absurd ((hrun (j + r) (by omega) q).trans (hrun j hj (by have := hr.1; omega)).symm) (hr.2.2 q)
        · have := hr.1.2; omega
      have cur : RowIs c (K + 1) f' (K + 1 - f') := ⟨⟨by omega, by omega⟩, fun i h1 h2 => hrun i h1 (by omega), fun q => absurd q (by omega)⟩
      rcases hl with ⟨h0, h1⟩ | ⟨b, m, h1, hb, hm, hj⟩
      · subst h0
        have hf0 : f' = 0 := by omega
        subst hf0
        rw [h1]
        rw [if_pos (by show (0 : Int) < _; omega), if_pos (by show (0 : Int) < _; omega)]
        refine Or.inr ⟨0, 1, rfl, by omega, cur, fun j r hj1 hjr => ?_⟩
        have := tail j r (by omega) hjr
        exact ⟨by omega, fun q => absurd q (by omega)⟩
      · rw [h1]
        by_cases hlt : (m : Int) < (K : Int) - (f' : Int) + 1
        · rw [if_pos hlt, if_pos hlt]
          refine Or.inr ⟨f', K + 1 - f', by rw [show ((K + 1 - f' : Nat) : Int) = (K : Int) - (f' : Int) + 1 by omega], by omega, cur, fun j r hj1 hjr => ?_⟩
          rcases Nat.lt_or_ge j f' with q | q
          · have := (hj j r (by omega) (down j r q hjr)).1
            exact ⟨by omega, fun _ => by omega⟩
          · have := tail j r q hjr
            exact ⟨by omega, fun q2 => absurd q2 (by omega)⟩
        · rw [if_neg hlt, if_neg hlt]
          have hbf : b < f' := by
            rcases Nat.lt_or_ge b f' with q | q
            · exact q
            · have q2 : b + m = K := by
                rcases Nat.lt_or_ge (b + m) K with q3 | q3
                · exact absurd ((hrun (b + m) (by omega) (by omega)).trans (hrun b q (by omega)).symm) (hm.2.2 q3)
                · have := hm.1.2; omega
              omega
          refine Or.inr ⟨b, m, rfl, by omega, up b m hbf hm, fun j r hj1 hjr => ?_⟩
          rcases Nat.lt_or_ge j f' with q | q
          · exact hj j r (by omega) (down j r q hjr)
          · have := tail j r q hjr
            exact ⟨by omega, fun q2 => absurd q2 (by omega)⟩
    by_cases h0 : K = 0
    · subst h0
      exact key 0 0 (-1, 0) rfl (Or.inl ⟨rfl, rfl⟩) (by unfold rnF; rw [if_neg (by omega)]) (by omega) (fun i h1 h2 => by rw [show i = 0 by omega]) (Or.inl rfl)
    · obtain ⟨⟨f, h1, h2, h3, h4⟩, h5⟩ := rn_is K (by omega)
      by_cases hc : c K = c (K - 1)
      · refine key f f _ rfl h5 (by unfold rnF; rw [if_pos ⟨by omega, hc⟩, h1]) (by omega) (fun i i1 i2 => ?_) h4
        by_cases hi : i = K
        · rw [hi, hc]
          exact h3 (K - 1) (by omega) (by omega)
        · exact h3 i i1 (by omega)
      · exact key f K _ rfl h5 (by unfold rnF; rw [if_neg (fun q => hc q.2)]) (by omega) (fun i i1 i2 => by rw [show i = K by omega]) (Or.inr (fun q => hc q.symm))
theorem run_eq {c : Nat → Int} {L : Nat} : (rnS c L).2 = fo (longG c L) L (-1, 0) := by
  by_cases h : L = 0
  · subst h
    rfl
  · exact (rn_is L (by omega)).2.uniq (long_is L (Nat.le_refl L))
theorem run_row {c : Nat → Int} {L : Nat} : (if (fo (longG c L) L (-1, 0)).1 = -1 then (0 : Int) else ((rowL c (fo (longG c L) L (-1, 0)).1.toNat (L - ((fo (longG c L) L (-1, 0)).1.toNat + 1)) ((fo (longG c L) L (-1, 0)).1.toNat + 1) : Nat) : Int)) = (fo (longG c L) L (-1, 0)).2 := by
  rcases long_is (c := c) L (Nat.le_refl L) with ⟨h0, hs⟩ | ⟨b, m, hs, hb, hm, hj⟩
  · rw [hs]
    rfl
  · rw [hs]
    show (if (b : Int) = -1 then (0 : Int) else ((rowL c (b : Int).toNat (L - ((b : Int).toNat + 1)) ((b : Int).toNat + 1) : Nat) : Int)) = (m : Int)
    rw [if_neg (by omega), show (b : Int).toNat = b by omega, (row_is hb).uniq hm]
theorem rn_congr {c c' : Nat → Int} : ∀ n, (∀ j, j < n → c j = c' j) → rnS c n = rnS c' n
  | 0, _ => rfl
  | n + 1, h => by
    have ih := rn_congr n (fun j hj => h j (by omega))
    have e : ∀ f, rnF c n f = rnF c' n f := fun f => by
      unfold rnF
      rw [h n (by omega), h (n - 1) (by omega)]
    unfold rnS
    rw [ih]
    simp only [e]
