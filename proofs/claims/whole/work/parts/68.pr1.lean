/-! ===== pairs: a call of the class, then the same of the reference: one answer, and the relation stays ===== -/
def Pr (yC : MethodName) (cC : ByteArray) (nC tC : Nat) (yR : MethodName) (cR : ByteArray) (nR tR : Nat) (av : List PV) (w U : Nat) (M : inm) : Prop :=
  ∀ Q : Int → Nat → rfm → inm → Prop, (∀ (z : Int) (w1 : Nat) (M1 : inm), (∀ Q2 : Int → Nat → rfm → inm → Prop, (∀ (w2 U2 : Nat) (M2 : inm), Rel M2 M2 w2 U2 → U2 ≤ U + 60 → Q2 z 303 (PP w2) M2) → OkI yR cR nR tR 0 0 (some .int) (vR 279 :: av) 303 (PP w1) M1 Q2) → Q z 303 (PP w1) M1) → OkI yC cC nC tC 0 0 (some .int) (vR 0 :: av) 303 (PP w) M Q
theorem q_eq {Q2 : Int → Nat → rfm → inm → Prop} {a b : Int} {w : Nat} {M : inm} (e : a = b) (k : Q2 b 303 (PP w) M) : Q2 a 303 (PP w) M := by
  rw [e]
  exact k
theorem cons2 {a b : Int} {l m : List Int} (h : a = b) (g : l = m) : a :: l = b :: m := by rw [h, g]
theorem sel_eq {l m : List Int} {a d : Int} (h : l = m) : sel l a d = sel m a d := by rw [h]
section RelAcc2
variable {A B A' B' : inm} {w U E T : Nat} {lt : Nat → Nat} {L n x c : Nat}
theorem RelP.kk (h : RelP A B w U E T lt L n x c) : ∀ j, j < L → B 284 (j + 1) = A 31 j := fun j hj => (h.on.2.1 j hj).1.1.symm
theorem RelP.tt (h : RelP A B w U E T lt L n x c) : ∀ j, j < L → B 284 (j + 13) = A 32 j := fun j hj => (h.on.2.1 j hj).2.1.symm
theorem RelP.gg (h : RelP A B w U E T lt L n x c) : ∀ e, e < 5 → B 284 (e + 29) = A 33 e := fun e he => (h.on.2.2.1 e he).1.symm
theorem RelP.ee (h : RelP A B w U E T lt L n x c) : ∀ e, e < 5 → B 284 (e + 34) = A 34 e := fun e he => (h.on.2.2.1 e he).2.1.symm
theorem RelP.pp (h : RelP A B w U E T lt L n x c) : ∀ e, e < 5 → B 284 (e + 39) = A 35 e := fun e he => (h.on.2.2.1 e he).2.2.symm
theorem RelP.layA (h : RelP A B w U E T lt L n x c) : Lay A 30 L := OR.lay (a := 30) h.on
theorem RelP.layB (h : RelP A B w U E T lt L n x c) : Lay10 B L := h.on.lay10
theorem RelP.eA (h : RelP A B w U E T lt L n x c) : A w 3 = (E : Int) ∧ E ≤ 5 := ⟨h.ca.2.1.1, h.ca.2.1.2.2⟩
theorem RelP.eB (h : RelP A B w U E T lt L n x c) : B 279 2 = (E : Int) ∧ E ≤ 5 := h.ca.2.1.2
theorem RelP.cA (h : RelP A B w U E T lt L n x c) : ∀ e, e < E → 0 ≤ A (w + 3) e ∧ A (w + 3) e ≤ 9 := fun e he => (h.ca.2.2.1 e he).1.2
theorem RelP.qA (h : RelP A B w U E T lt L n x c) : ∀ e, e < E → 1 ≤ A (w + 4) e ∧ A (w + 4) e ≤ 9 := fun e he => (h.ca.2.2.1 e he).2.2
theorem RelP.cc (h : RelP A B w U E T lt L n x c) : ∀ e, e < E → B 280 e = A (w + 3) e := fun e he => (h.ca.2.2.1 e he).1.1.symm
theorem RelP.qq (h : RelP A B w U E T lt L n x c) : ∀ e, e < E → B 281 e = A (w + 4) e := fun e he => (h.ca.2.2.1 e he).2.1.symm
theorem RelP.cB (h : RelP A B w U E T lt L n x c) : ∀ e, e < E → 0 ≤ B 280 e ∧ B 280 e ≤ 9 := fun e he => by rw [h.cc e he]; exact h.cA e he
theorem RelP.qB (h : RelP A B w U E T lt L n x c) : ∀ e, e < E → 1 ≤ B 281 e ∧ B 281 e ≤ 9 := fun e he => by rw [h.qq e he]; exact h.qA e he
theorem RelP.ty (h : RelP A B w U E T lt L n x c) : ∀ t, t < T → ∀ k, k < lt t → B 283 (8 * t + k) = A (w + 7 + t) k := fun t ht k hk => ((h.ca.2.2.2.2 t ht).2 k hk).1.symm
theorem RelP.tysA (h : RelP A B w U E T lt L n x c) : Tys A w T lt := ⟨h.ca.2.2.2.1.1, h.ca.2.2.2.1.2.2, fun t ht => ⟨(h.ca.2.2.2.2 t ht).1.1, (h.ca.2.2.2.2 t ht).1.2.2⟩, fun t ht k hk => ((h.ca.2.2.2.2 t ht).2 k hk).2⟩
theorem RelP.tysB (h : RelP A B w U E T lt L n x c) : Tys10 B T lt := ⟨h.ca.2.2.2.1.2.1, h.ca.2.2.2.1.2.2, fun t ht => (h.ca.2.2.2.2 t ht).1.2, fun t ht k hk => by rw [h.ty t ht k hk]; exact ((h.ca.2.2.2.2 t ht).2 k hk).2⟩
theorem RelP.gA (h : RelP A B w U E T lt L n x c) : ∀ e, e < 5 → 0 ≤ A 33 e ∧ A 33 e ≤ 9999 := h.bd.1.1
theorem RelP.tA (h : RelP A B w U E T lt L n x c) : ∀ e, e < 5 → 0 ≤ A 34 e ∧ A 34 e ≤ 9999 := h.bd.1.2.1
theorem RelP.rb (h : RelP A B w U E T lt L n x c) : RB B L n U := h.on.rb h.bd.1 (by have := h.u; omega)
theorem RelP.nn (h : RelP A B w U E T lt L n x c) : (A 30 7 = (n : Int) ∧ n ≤ 20) ∧ B 284 44 = (n : Int) ∧ n ≤ 20 := ⟨⟨h.on.2.2.2.2.1, h.on.2.2.2.2.2.2.1⟩, h.on.2.2.2.2.2.1, h.on.2.2.2.2.2.2.1⟩
theorem RelP.L12 (h : RelP A B w U E T lt L n x c) : L ≤ 12 := h.on.1.2.2
theorem RelP.ww (h : RelP A B w U E T lt L n x c) : ∀ j, j < L → worth (B 284 (j + 1)) (B 284 (j + 13)) = worth (A 31 j) (A 32 j) := fun j hj => by rw [h.kk j hj, h.tt j hj]
theorem RelP.ss (h : RelP A B w U E T lt L n x c) : ∀ j, j < L → sting (B 284 (j + 1)) (B 284 (j + 13)) = sting (A 31 j) (A 32 j) := fun j hj => by rw [h.kk j hj, h.tt j hj]
theorem RelP.y8 (h : RelP A B w U E T lt L n x c) : B 284 25 = A 30 8 := h.on.2.2.2.1.1.symm
theorem RelP.y9 (h : RelP A B w U E T lt L n x c) : B 284 26 = A 30 9 := h.on.2.2.2.1.2.1.symm
theorem RelP.b9 (h : RelP A B w U E T lt L n x c) : A 30 9 = 0 ∨ A 30 9 = 1 := h.bd.1.2.2.2.2.2.2.1
theorem RelP.y10 (h : RelP A B w U E T lt L n x c) : B 284 27 = (if A 30 10 = 0 then 0 else A w 1) := h.on.2.2.2.1.2.2.1
theorem RelP.i0 (h : RelP A B w U E T lt L n x c) : B 279 0 = A w 0 := h.ca.1.2.1
theorem RelP.xx (h : RelP A B w U E T lt L n x c) : A 37 1 = (x : Int) ∧ x < 30 := h.de.1
theorem RelP.dA (h : RelP A B w U E T lt L n x c) : A 37 2 = (c : Int) ∧ c ≤ 30 := ⟨h.de.2.1.1, h.de.2.1.2.2⟩
theorem RelP.dB (h : RelP A B w U E T lt L n x c) : B 279 33 = (c : Int) ∧ c ≤ 30 := h.de.2.1.2
theorem RelP.yp (h : RelP A B w U E T lt L n x c) : YP A w x c L E U := ⟨h.cs, h.xx, h.dA, h.bd.1, h.layA, h.eA, h.cA, h.qA⟩
theorem RelP.rqy (h : RelP A B w U E T lt L n x c) : RQY B L n U E := ⟨h.rb, h.eB, h.qB⟩
end RelAcc2
section Pairs
variable {M : inm} {w U : Nat}
theorem pr_fault (h : Rel M M w U) : Pr yX9_fault cX9_fault 1 0 yX10_fault cX10_fault 1 0 [] w U M := by
  obtain ⟨E, T, lt, L, n, x, c, h⟩ := h
  intro Q K
  refine ok_X9_fault (K _ _ _ (fun Q2 K2 => ok_X10_fault ?_))
  exact q_eq h.rd.2.symm (K2 _ _ _ h.any (by omega))
theorem pr_told {a : Int} (h : Rel M M w U) : Pr yX9_told cX9_told 2 4 yX10_told cX10_told 2 3 [vI a] w U M := by
  obtain ⟨E, T, lt, L, n, x, c, h⟩ := h
  intro Q K
  have hE5 := h.eA.2
  refine ok_X9_told h.cs h.layA h.tysA h.eA h.bd.1 h.cA h.qA (K _ _ _ (fun Q2 K2 => ok_X10_told h.layB h.tysB h.eB (fun e he => ?_) (fun e he => ?_) h.qB ?_))
  · rw [h.gg e (by omega)]
    have := h.gA e (by omega)
    omega
  · rw [h.ee e (by omega)]
    exact h.tA e (by omega)
  refine q_eq (sel_eq ?_) (K2 _ _ _ h.any (by omega))
  have hsure : ∀ u : Nat, decide (0 < cntTo (nextP lt (fun t k => M 283 (8 * t + k)) (fun j => M 284 (j + 1)) L (u : Int)) T) = decide (0 < cntTo (nextP lt (fun t k => M (w + 7 + t) k) (fun j => M 31 j) L (u : Int)) T) := fun u => by
    rw [next_congr h.ty h.kk]
  refine cons2 ?_ (cons2 rfl (cons2 rfl (cons2 rfl (cons2 ?_ (cons2 h.y8 (cons2 ?_ (cons2 h.y10 (cons2 (sumTo_congr L h.tt) (cons2 (cut_congr h.tt) (cons2 ?_ (cons2 ?_ (cons2 ?_ (cons2 ?_ (cons2 ?_ (cons2 ?_ (cons2 ?_ (cons2 ?_ (cons2 ?_ (cons2 ?_ rfl)))))))))))))))))))
  · rw [h.i0]
  · obtain ⟨⟨m, h1, h2, -⟩, -⟩ := h.rd
    rw [h1, h2]
  · rw [h.y9]
    rcases h.b9 with q | q <;> rw [q] <;> rfl
  · rw [set_congr (fun t ht => beg_congr (K := fun t k => M 283 (8 * t + k)) (K' := fun t k => M (w + 7 + t) k) (h.ty t ht) h.kk)]
  · rw [sure_eq]
    simp only [hsure]
  · rw [law_congr h.kk]
  · by_cases h0 : E = 0
    · rw [if_pos h0, if_pos h0]
    · rw [if_neg h0, if_neg h0, env_eq (by omega) (fun e he => by have := h.gA e (by omega); omega), envG_congr E (fun e he => h.gg e (by omega))]
  · rw [weep_eq (fun e he => (h.tA e (by omega)).1)]
    by_cases h0 : E = 0
    · rw [if_pos h0, if_pos h0]
    · rw [if_neg h0, if_neg h0, (argX_congr E (fun e he => h.ee e (by omega))).1]
  · exact dry_congr (fun e he => ⟨h.ee e (by omega), h.qq e he⟩)
  · rw [h.nn.1.1, h.nn.2.1]
  · obtain ⟨g, h1, h2, -⟩ := h.gu
    rw [h1, h2]
  · obtain ⟨g, h1, h2, -⟩ := h.bo
    rw [h1, h2]
  · rw [h.dA.1, h.dB.1]
theorem pr_layer {k a : Int} (h : Rel M M w U) : Pr yX9_layer cX9_layer 3 2 yX10_layer cX10_layer 3 2 [vI k, vI a] w U M := by
  obtain ⟨E, T, lt, L, n, x, c, h⟩ := h
  intro Q K
  by_cases hk : 0 ≤ k ∧ k < (L : Int)
  · obtain ⟨j, rfl⟩ : ∃ j : Nat, k = (j : Int) := ⟨k.toNat, by omega⟩
    have hj : j < L := by omega
    refine ok_X9_layer_in (k := 0) h.layA hj (K _ _ _ (fun Q2 K2 => ok_X10_layer_in (k := 0) h.layB hj ?_))
    refine q_eq (sel_eq ?_) (K2 _ _ _ h.any (by omega))
    rw [h.kk j hj, h.tt j hj]
  · exact ok_X9_layer_out (j := 0) h.layA hk (K _ _ _ (fun Q2 K2 => ok_X10_layer_out (j := 0) h.layB hk (K2 _ _ _ h.any (by omega))))
theorem pr_executor {k a : Int} (h : Rel M M w U) : Pr yX9_executor cX9_executor 3 1 yX10_executor cX10_executor 3 2 [vI k, vI a] w U M := by
  obtain ⟨E, T, lt, L, n, x, c, h⟩ := h
  intro Q K
  have hE5 := h.eA.2
  by_cases hk : 0 ≤ k ∧ k < (E : Int)
  · obtain ⟨j, rfl⟩ : ∃ j : Nat, k = (j : Int) := ⟨k.toNat, by omega⟩
    have hj : j < E := by omega
    refine ok_X9_executor_in (k := 0) h.cs h.eA hj (K _ _ _ (fun Q2 K2 => ok_X10_executor_in (k := 0) h.eB hj ?_))
    refine q_eq (sel_eq ?_) (K2 _ _ _ h.any (by omega))
    rw [h.cc j hj, h.qq j hj, h.gg j (by omega), h.ee j (by omega), h.pp j (by omega)]
  · exact ok_X9_executor_out (j := 0) h.cs h.eA hk (K _ _ _ (fun Q2 K2 => ok_X10_executor_out (j := 0) h.eB hk (K2 _ _ _ h.any (by omega))))
theorem pr_type {k a : Int} (h : Rel M M w U) : Pr yX9_type cX9_type 3 1 yX10_type cX10_type 3 1 [vI k, vI a] w U M := by
  obtain ⟨E, T, lt, L, n, x, c, h⟩ := h
  intro Q K
  by_cases hk : (0 ≤ k ∧ k < (T : Int)) ∧ 0 ≤ a ∧ a < 8
  · obtain ⟨j, rfl⟩ : ∃ j : Nat, k = (j : Int) := ⟨k.toNat, by omega⟩
    obtain ⟨i, rfl⟩ : ∃ i : Nat, a = (i : Int) := ⟨a.toNat, by omega⟩
    have hj : j < T := by omega
    refine ok_X9_type_in h.cs h.tysA hj (by omega) (K _ _ _ (fun Q2 K2 => ok_X10_type_in h.tysB hj (by omega) ?_))
    exact q_eq (kind_congr (h.ty j hj i)) (K2 _ _ _ h.any (by omega))
  · refine ok_X9_type_out h.cs h.tysA hk (fun q => K _ _ _ (fun Q2 K2 => ok_X10_type_out h.tysB hk (fun _ => K2 _ _ _ h.any (by omega)) (fun q1 => absurd q1 q))) (fun q1 q2 => K _ _ _ (fun Q2 K2 => ok_X10_type_out h.tysB hk (fun q => absurd q1 q) (fun _ _ => K2 _ _ _ h.any (by omega))))
theorem pr_logged {k a : Int} (h : Rel M M w U) : Pr yX9_logged cX9_logged 3 0 yX10_logged cX10_logged 3 1 [vI k, vI a] w U M := by
  obtain ⟨E, T, lt, L, n, x, c, h⟩ := h
  intro Q K
  by_cases hk : (0 ≤ k ∧ k < (n : Int)) ∧ 0 ≤ a ∧ a < 4
  · obtain ⟨j, rfl⟩ : ∃ j : Nat, k = (j : Int) := ⟨k.toNat, by omega⟩
    obtain ⟨i, rfl⟩ : ∃ i : Nat, a = (i : Int) := ⟨a.toNat, by omega⟩
    have hj : j < n := by omega
    refine ok_X9_logged_in h.nn.1 hj (by omega) (K _ _ _ (fun Q2 K2 => ok_X10_logged_in h.nn.2 hj (by omega) ?_))
    exact q_eq (h.on.2.2.2.2.2.2.2 j i hj (by omega)).symm (K2 _ _ _ h.any (by omega))
  · refine ok_X9_logged_out h.nn.1 hk (fun q => K _ _ _ (fun Q2 K2 => ok_X10_logged_out h.nn.2 hk (fun _ => K2 _ _ _ h.any (by omega)) (fun q1 => absurd q1 q))) (fun q1 q2 => K _ _ _ (fun Q2 K2 => ok_X10_logged_out h.nn.2 hk (fun q => absurd q1 q) (fun _ _ => K2 _ _ _ h.any (by omega))))
theorem pr_dry {k q : Int} (h : Rel M M w U) : Pr yX9_dry cX9_dry 6 0 yX10_dry cX10_dry 6 1 [vI k, vI q] w U M := by
  intro Q K
  by_cases hk : 0 ≤ k ∧ k ≤ 60 ∧ 0 ≤ q ∧ q ≤ 100
  · obtain ⟨j, rfl⟩ : ∃ j : Nat, k = (j : Int) := ⟨k.toNat, by omega⟩
    exact ok_X9_dry_in (by omega) hk.2.2 (K _ _ _ (fun Q2 K2 => ok_X10_dry_in (by omega) hk.2.2 (K2 _ _ _ h (by omega))))
  · exact ok_X9_dry_out hk (K _ _ _ (fun Q2 K2 => ok_X10_dry_out hk (K2 _ _ _ h (by omega))))
theorem pr_nextKind {a : Int} (h : Rel M M w U) : Pr yX9_nextKind cX9_nextKind 2 3 yX10_nextKind cX10_nextKind 2 2 [vI a] w U M := by
  obtain ⟨E, T, lt, L, n, x, c, h⟩ := h
  intro Q K
  refine ok_X9_nextKind h.cs h.layA h.tysA (fun q => K _ _ _ (fun Q2 K2 => ok_X10_nextKind h.tysB h.layB (fun _ => K2 _ _ _ h.any (by omega)) (fun q1 => absurd q1 q))) (fun q => K _ _ _ (fun Q2 K2 => ok_X10_nextKind h.tysB h.layB (fun q1 => absurd q q1) (fun _ => ?_)))
  exact q_eq (by rw [next_congr h.ty h.kk]) (K2 _ _ _ h.any (by omega))
theorem pr_twoSides {a : Int} (h : Rel M M w U) : Pr yX9_twoSides cX9_twoSides 3 3 yX10_twoSides cX10_twoSides 8 2 [vI a] w U M := by
  obtain ⟨E, T, lt, L, n, x, c, h⟩ := h
  intro Q K
  refine ok_X9_twoSides h.layA (K _ _ _ (fun Q2 K2 => ?_))
  by_cases ha : 0 ≤ a ∧ a ≤ 2
  · refine ok_X10_twoSides_in h.layB ha (q_eq (sel_eq ?_) (K2 _ _ _ h.any (by omega)))
    rw [sumTo_congr (L - L / 2) (fun j hj => h.ww j (by omega)), sumTo_congr L h.ww, sumTo_congr 0 (fun j hj => absurd hj (by omega))]
  · refine ok_X10_twoSides_out ha (q_eq ?_ (K2 _ _ _ h.any (by omega)))
    unfold sel
    by_cases h0 : a < 0
    · rw [if_pos h0]
    · rw [if_neg h0, List.getD_eq_getElem?_getD, List.getElem?_eq_none (by show 3 ≤ _; omega)]
      rfl
theorem pr_allows {a : Int} (h : Rel M M w U) : Pr yX9_allows cX9_allows 2 2 yX10_allows cX10_allows 4 1 [vI a] w U M := by
  obtain ⟨E, T, lt, L, n, x, c, h⟩ := h
  intro Q K
  by_cases ha : 0 ≤ a ∧ a < 5
  · obtain ⟨j, rfl⟩ : ∃ j : Nat, a = (j : Int) := ⟨a.toNat, by omega⟩
    refine ok_X9_allows_in h.cs h.layA h.tysA (by omega) (K _ _ _ (fun Q2 K2 => ok_X10_allows_in h.layB h.tysB (by omega) ?_))
    refine q_eq ?_ (K2 _ _ _ h.any (by omega))
    rw [under_congr (orTo_congr T (fun t ht => law_congr (h.ty t ht))) h.kk]
  · exact ok_X9_allows_out ha (K _ _ _ (fun Q2 K2 => ok_X10_allows_out ha (K2 _ _ _ h.any (by omega))))
theorem pr_run {a : Int} (h : Rel M M w U) : Pr yX9_run cX9_run 3 3 yX10_run cX10_run 6 1 [vI a] w U M := by
  obtain ⟨E, T, lt, L, n, x, c, h⟩ := h
  intro Q K
  have e : (rnS (fun j => M 284 (j + 1)) L).2 = fo (longG (fun j => M 31 j) L) L (-1, 0) := by
    rw [rn_congr L h.kk, run_eq]
  refine ok_X9_run h.layA (fun q => K _ _ _ (fun Q2 K2 => ok_X10_run_out (by omega) (K2 _ _ _ h.any (by omega)))) (fun q => K _ _ _ (fun Q2 K2 => ok_X10_run_in h.layB (by omega) (fun q1 => ?_) (fun q1 => ?_)))
  · subst q1
    refine q_eq ?_ (K2 _ _ _ h.any (by omega))
    rw [e]
    exact run_row.symm
  · subst q1
    refine q_eq ?_ (K2 _ _ _ h.any (by omega))
    rw [e]
    rfl
theorem pr_worthIt {k a : Int} (h : Rel M M w U) : Pr yX9_worthIt cX9_worthIt 3 4 yX10_worthIt cX10_worthIt 7 2 [vI k, vI a] w U M := by
  obtain ⟨E, T, lt, L, n, x, c, h⟩ := h
  intro Q K
  by_cases hk : 0 ≤ k ∧ k < (E : Int)
  · obtain ⟨j, rfl⟩ : ∃ j : Nat, k = (j : Int) := ⟨k.toNat, by omega⟩
    have hj : j < E := by omega
    have e : fo (bestG (gainF (fun j => M 284 (j + 1)) (fun j => M 284 (j + 13)) (M 280 j))) L (0, 0) = fo (bestG (gainF (fun j => M 31 j) (fun j => M 32 j) (M (w + 3) j))) L (0, 0) := best_congr (fun i hi => gain_congr (h.kk i hi) (h.tt i hi) (h.cc j hj))
    refine ok_X9_worthIt_in (k := 0) h.cs h.eA h.layA h.cA hj (K _ _ _ (fun Q2 K2 => ?_))
    by_cases ha : a = 0 ∨ a = 1
    · refine ok_X10_worthIt_in h.eB h.layB h.cB hj ha (fun q1 => ?_) (fun q1 => ?_)
      · subst q1
        refine q_eq ?_ (K2 _ _ _ h.any (by omega))
        rw [e]
        rfl
      · subst q1
        refine q_eq ?_ (K2 _ _ _ h.any (by omega))
        rw [e, best_sum, Int.add_comm]
        rfl
    · refine ok_X10_worthIt_out h.eB (fun q => ha q.2) (fun q => absurd hk q) (fun _ _ => q_eq ?_ (K2 _ _ _ h.any (by omega)))
      unfold sel
      by_cases h0 : a < 0
      · rw [if_pos h0]
      · rw [if_neg h0, List.getD_eq_getElem?_getD, List.getElem?_eq_none (by show 2 ≤ _; omega)]
        rfl
  · exact ok_X9_worthIt_out (j := 0) h.cs h.eA h.layA h.cA hk (K _ _ _ (fun Q2 K2 => ok_X10_worthIt_out h.eB (fun q => hk q.1) (fun _ => K2 _ _ _ h.any (by omega)) (fun q => absurd q hk)))
theorem sc_rel {E T : Nat} {lt : Nat → Nat} {L n x c : Nat} {M' : inm} (h : RelP M M w U E T lt L n x c) (hs : Sc M M') : RelP M' M' w U E T lt L n x c ∧ RelP M M' w U E T lt L n x c :=
  ⟨h.of (fun y j _ q => hs y j (by omega)) (fun y j _ _ => hs y j (by omega)), h.of (fun _ _ _ _ => rfl) (fun y j _ _ => hs y j (by omega))⟩
theorem sr_rel {E T : Nat} {lt : Nat → Nat} {L n x c : Nat} {M' : inm} (h : RelP M M w U E T lt L n x c) (hs : Sr M M') : RelP M' M' w U E T lt L n x c :=
  h.of (fun y j _ q => hs y j (by omega)) (fun y j _ _ => hs y j (by omega))
theorem pr_byTurns {a : Int} (h : Rel M M w U) : Pr yX9_byTurns cX9_byTurns 3 3 yX10_byTurns cX10_byTurns 7 2 [vI a] w U M := by
  obtain ⟨E, T, lt, L, n, x, c, h⟩ := h
  intro Q K
  refine ok_X9_byTurns h.layA (fun q => K _ _ _ (fun Q2 K2 => ok_X10_byTurns_out (by omega) (K2 _ _ _ h.any (by omega)))) (fun q M' hs => K _ _ _ (fun Q2 K2 => ?_)) (fun q M' hs => K _ _ _ (fun Q2 K2 => ?_))
  · obtain ⟨h1, h2⟩ := sc_rel h hs
    refine ok_X10_byTurns_in h1.layB (Or.inl q) (fun _ M2 hr => ?_) (fun q1 => absurd (q.symm.trans q1) (by decide))
    refine q_eq ?_ (K2 _ _ _ (sr_rel h1 hr).any (by omega))
    rw [bt_congr h2.ww L (Nat.le_refl L), Int.add_comm]
  · obtain ⟨h1, h2⟩ := sc_rel h hs
    refine ok_X10_byTurns_in h1.layB (Or.inr q) (fun q1 => absurd (q.symm.trans q1) (by decide)) (fun _ M2 hr => ?_)
    refine q_eq ?_ (K2 _ _ _ (sr_rel h1 hr).any (by omega))
    rw [bt_congr h2.ww L (Nat.le_refl L)]
theorem pr_fair {a : Int} (h : Rel M M w U) : Pr yX9_fair cX9_fair 3 3 yX10_fair cX10_fair 6 2 [vI a] w U M := by
  obtain ⟨E, T, lt, L, n, x, c, h⟩ := h
  intro Q K
  have hE5 := h.eA.2
  have hgB : ∀ {A B : inm}, RelP A B w U E T lt L n x c → ∀ e, e < 5 → 0 ≤ B 284 (e + 29) ∧ B 284 (e + 29) ≤ 9999 := fun h e he => by
    rw [h.gg e he]
    exact h.gA e he
  have hW : ∀ i, i < L → 0 ≤ worth (M 31 i) (M 32 i) ∧ worth (M 31 i) (M 32 i) ≤ 40 := fun i hi => by
    have h1 := (h.on.2.1 i hi).2.2
    have h2 := worth_in (c := M 31 i) (t := M 32 i) h1.1
    have h3 : 0 ≤ M 32 i ∧ M 32 i ≤ 20 := h1
    omega
  refine ok_X9_fair h.cs h.layA h.eA h.bd.1 (fun q1 q2 => K _ _ _ (fun Q2 K2 => ?_)) (fun q1 q2 => K _ _ _ (fun Q2 K2 => ?_)) (fun q1 q2 M' hs => K _ _ _ (fun Q2 K2 => ?_)) (fun q1 q2 M' hs => K _ _ _ (fun Q2 K2 => ?_))
  · exact ok_X10_fair h.layB h.eB (hgB h) (fun _ _ => K2 _ _ _ h.any (by omega)) (fun q => absurd q (by omega)) (fun q => absurd q (by omega)) (fun q => absurd q (by omega))
  · exact ok_X10_fair h.layB h.eB (hgB h) (fun q3 q4 => absurd q1 (by omega)) (fun _ _ => K2 _ _ _ h.any (by omega)) (fun _ q => absurd q (by omega)) (fun _ q => absurd q (by omega))
  · obtain ⟨h1, h2⟩ := sc_rel h hs
    refine ok_X10_fair h1.layB h1.eB (hgB h1) (fun q3 => absurd q1 q3) (fun _ q3 => absurd q3 (by omega)) (fun _ _ M2 hr => ?_) (fun q3 => absurd q3 (by omega))
    refine q_eq ?_ (K2 _ _ _ (sr_rel h1 hr).any (by omega))
    have e := (sh_congr (k := a) hE5 h2.gg L h2.ww).2
    rw [envG_congr E (fun i hi => e i (by omega)), env_eq q2 (fun i hi => ?_)]
    have := sh_in (W := fun j => worth (M 31 j) (M 32 j)) (g := fun j => M 33 j) (E := E) (k := a) h.gA L hW i (by omega)
    have := h.L12
    omega
  · obtain ⟨h1, h2⟩ := sc_rel h hs
    refine ok_X10_fair h1.layB h1.eB (hgB h1) (fun q3 q4 => absurd q1 q4) (fun _ q3 => absurd q3 (by omega)) (fun q3 => absurd q3 (by omega)) (fun _ _ M2 hr => ?_)
    exact q_eq (sh_congr (k := a) hE5 h2.gg L h2.ww).1 (K2 _ _ _ (sr_rel h1 hr).any (by omega))
theorem pr_parts {k a : Int} (h : Rel M M w U) : Pr yX9_parts cX9_parts 4 4 yX10_parts cX10_parts 9 3 [vI k, vI a] w U M := by
  obtain ⟨E, T, lt, L, n, x, c, h⟩ := h
  intro Q K
  have hL := h.L12
  by_cases hk : (1 ≤ k ∧ k ≤ 5 ∧ 0 ≤ a ∧ a ≤ 1) ∧ k ≤ (L : Int)
  · obtain ⟨m, rfl⟩ : ∃ m : Nat, k = (m : Int) := ⟨k.toNat, by omega⟩
    have hm : 1 ≤ m ∧ m ≤ 5 ∧ m ≤ L := by omega
    have hS := sum_mono (f := fun j => sting (M 31 j) (M 32 j)) (L := L) (fun j hj => by
      have h1 := (h.on.2.1 j hj).2.2
      have h2 := sting_in (c := M 31 j) (t := M 32 j) h1.1
      have h3 : 0 ≤ M 32 j ∧ M 32 j ≤ 20 := h1
      show 0 ≤ sting (M 31 j) (M 32 j) ∧ sting (M 31 j) (M 32 j) ≤ 40
      omega) hL
    refine ok_X9_parts_in h.layA hm ⟨hk.1.2.2.1, hk.1.2.2.2⟩ (fun q M' hs => K _ _ _ (fun Q2 K2 => ?_)) (fun q M' hs => K _ _ _ (fun Q2 K2 => ?_))
    · obtain ⟨h1, h2⟩ := sc_rel h hs
      refine ok_X10_parts_in h1.layB hm (Or.inl q) (fun _ M2 hr => ?_) (fun q1 => absurd (q.symm.trans q1) (by decide))
      refine q_eq ?_ (K2 _ _ _ (sr_rel h1 hr).any (by omega))
      rw [rPW_congr (S' := sumTo (fun j => sting (M 31 j) (M 32 j))) (fun j hj => sumTo_congr j (fun i hi => h2.ss i (by omega))) m 0 (by omega)]
      have e := PW_eq hS (m - 1) 0 (by omega)
      rw [show m - 1 + 1 = m by omega] at e
      exact e
    · obtain ⟨h1, h2⟩ := sc_rel h hs
      have e : ∀ p j, j ≤ L → rPW (sumTo (fun j => sting (M' 284 (j + 1)) (M' 284 (j + 13)))) L p j = rPW (sumTo (fun j => sting (M 31 j) (M 32 j))) L p j := fun p j hj => rPW_congr (fun j hj => sumTo_congr j (fun i hi => h2.ss i (by omega))) p j hj
      have e2 : ∀ j, j ≤ L → sumTo (fun j => sting (M' 284 (j + 1)) (M' 284 (j + 13))) j = sumTo (fun j => sting (M 31 j) (M 32 j)) j := fun j hj => sumTo_congr j (fun i hi => h2.ss i (by omega))
      obtain ⟨f1, f2, f3⟩ := FF_is hS hm.1 hm.2.2
      refine ok_X10_parts_in h1.layB hm (by omega) (fun q1 => absurd q1 q) (fun _ => ⟨FFp (sumTo (fun j => sting (M 31 j) (M 32 j))) L (m - 1), f1, ?_, fun y y1 y2 => ?_, fun M2 hr => K2 _ _ _ (sr_rel h1 hr).any (by omega)⟩)
      · rw [e m 0 (by omega), e (m - 1) _ f1.2, e2 _ f1.2, e2 0 (by omega)]
        exact f2
      · rw [e m 0 (by omega), e (m - 1) y (by omega), e2 y (by omega), e2 0 (by omega)]
        exact f3 y y1 y2
  · refine ok_X9_parts_out h.layA hk (fun q => K _ _ _ (fun Q2 K2 => ok_X10_parts_out h.layB hk (fun _ => K2 _ _ _ h.any (by omega)) (fun q1 => absurd q1 q))) (fun q1 q2 => K _ _ _ (fun Q2 K2 => ok_X10_parts_out h.layB hk (fun q => absurd q1 q) (fun _ _ => K2 _ _ _ h.any (by omega))))
theorem fit_congr {lt gk : Nat → Nat} {K K' : Nat → Nat → Int} {a a' b b' : Nat → Int} {T c : Nat} (hK : ∀ t, t < T → ∀ k, k < lt t → K t k = K' t k) (ha : ∀ i, i < c → a i = a' i ∧ b i = b' i) : orTo (setG (fun t => allTo (fun i => decide ((if kindV lt K t (gk i) = a i then 1 else 0) = b i)) c)) T = orTo (setG (fun t => allTo (fun i => decide ((if kindV lt K' t (gk i) = a' i then 1 else 0) = b' i)) c)) T := by
  refine set_congr (fun t ht => allTo_congr c (fun i hi => ?_))
  rw [kind_congr (hK t ht (gk i)), (ha i hi).1, (ha i hi).2]
theorem pr_couldBe (h : Rel M M w U) : Pr yX9_couldBe cX9_couldBe 1 3 yX10_couldBe cX10_couldBe 3 2 [] w U M := by
  obtain ⟨E, T, lt, L, n, x, c, h⟩ := h
  intro Q K
  obtain ⟨g, h1, h2, h3, gk, h4⟩ := h.gu
  refine ok_X9_couldBe h.cs h.tysA h1 h3 (fun i hi => (h4 i hi).1) (K _ _ _ (fun Q2 K2 => ok_X10_couldBe h.tysB h2 h3 (fun i hi => (h4 i hi).2.1) (fun i hi => (h4 i hi).2.2.2.2.2) ?_))
  refine q_eq ?_ (K2 _ _ _ h.any (by omega))
  rw [fit_congr (K' := fun t k => M (w + 7 + t) k) (a' := fun i => M 268 i) (b' := fun i => M 269 i) h.ty (fun i hi => ⟨(h4 i hi).2.2.2.1.symm, (h4 i hi).2.2.2.2.1.symm⟩)]
theorem pr_ask (h : Rel M M w U) : Pr yX9_ask cX9_ask 1 3 yX10_ask cX10_ask 9 3 [] w U M := by
  obtain ⟨E, T, lt, L, n, x, c, h⟩ := h
  intro Q K
  obtain ⟨g, h1, h2, h3, gk, h4⟩ := h.gu
  refine ok_X9_ask h.cs h.tysA h1 h3 (fun i hi => (h4 i hi).1) (fun M' hs => K _ _ _ (fun Q2 K2 => ?_))
  obtain ⟨r1, r2⟩ := sc_rel h hs
  have hB : ∀ y j, 278 ≤ y → M' y j = M y j := fun y j hy => hs y j (by omega)
  refine ok_X10_ask r1.tysB (gk := gk) (c := g) (by rw [hB _ _ (by omega)]; exact h2) h3 (fun i hi => by rw [hB _ _ (by omega)]; exact (h4 i hi).2.1) (fun i hi => by rw [hB _ _ (by omega)]; exact (h4 i hi).2.2.2.2.2) ?_
  refine q_eq ?_ (K2 _ _ _ r1.any (by omega))
  have hT6 : T ≤ 6 := h.tysA.2.1
  rw [fit_congr (K' := fun t k => M (w + 7 + t) k) (a' := fun i => M 268 i) (b' := fun i => M 269 i) r2.ty (fun i hi => ⟨(hB 288 i (by omega)).trans (h4 i hi).2.2.2.1.symm, (hB 289 i (by omega)).trans (h4 i hi).2.2.2.2.1.symm⟩), bits_set hT6]
  rw [ask_eq (f := fun k t => kindV lt (fun t k => M (w + 7 + t) k) t k) (g := fun k t => kindV lt (fun t k => M' 283 (8 * t + k)) t k) (fun k hk t ht => ⟨?_, (kind_congr (K := fun t k => M' 283 (8 * t + k)) (K' := fun t k => M (w + 7 + t) k) (r2.ty t ht k)).symm⟩)]
  unfold kindV
  split
  · rename_i hkl
    have := (h.tysA.2.2.2 t ht k hkl)
    show -1 ≤ M (w + 7 + t) k ∧ M (w + 7 + t) k ≤ 4
    omega
  · omega
theorem pr_judge (h : Rel M M w U) : Pr yX9_judge cX9_judge 1 1 yX10_judge cX10_judge 2 0 [] w U M := by
  obtain ⟨E, T, lt, L, n, x, c, h⟩ := h
  intro Q K
  obtain ⟨g, h1, h2, h3, h4⟩ := h.bo
  refine ok_X9_judge h1 h3 (fun i hi => (h4 i hi).2.1) (K _ _ _ (fun Q2 K2 => ok_X10_judge h2 h3 (fun i hi => by rw [← (h4 i hi).1]; exact (h4 i hi).2.1) ?_))
  refine q_eq (fst1_congr g 0 (fun i _ hi => ?_)) (K2 _ _ _ h.any (by omega))
  obtain ⟨a1, a2, a3⟩ := h4 i (by omega)
  rw [← a1, ← a3, show (29 + M 271 i).toNat = (M 271 i).toNat + 29 by omega, h.gg _ (by omega)]
end Pairs
