/-! ===== reading: a clause of the class, in the reference's words ===== -/
section Num
variable {T : Nat → Int} {n q p : Nat} {lo hi : Int} {M : inm}
theorem numB_s : numB T n (skp T n q) = numB T n q := skp_skp
theorem numE_s : numE T n (skp T n q) = numE T n q := by
  unfold numE
  rw [skp_skp]
theorem nF_s : nF T n (skp T n q) lo hi = nF T n q lo hi := by
  unfold nF
  rw [numB_s, numE_s]
theorem nV_s : nV T n (skp T n q) = nV T n q := by
  unfold nV
  rw [numB_s, numE_s]
theorem numP_s : numP T n (skp T n q) = numP T n q := by
  unfold numP
  rw [skp_skp]
theorem numP_E : numP T n q = skp T n (numE T n q) := rfl
theorem nF_0 (h : nF T n p lo hi = 0) : lo ≤ nV T n p ∧ nV T n p ≤ hi := by
  unfold nF numF at h
  unfold nV
  by_cases h1 : numE T n p = numB T n p
  · rw [if_pos h1] at h
    exact absurd h (by decide)
  · rw [if_neg h1] at h
    by_cases h2 : 3 < numE T n p - numB T n p ∨ dv T (numB T n p) (numE T n p - numB T n p) < lo ∨ hi < dv T (numB T n p) (numE T n p - numB T n p)
    · rw [if_pos h2] at h
      exact absurd h (by decide)
    · omega
theorem mNum_f (hT : (fun j => M 2 j) = T) (h0 : M 1 4 = 0) : mNum M n p lo hi 1 4 = nF T n p lo hi ∧ mNum M n p lo hi 1 5 = if nF T n p lo hi = 0 then M 1 5 else ((numB T n p : Nat) : Int) := by
  subst hT
  have e : numF (fun j => M 2 j) (skp (fun j => M 2 j) n p) (dig (fun j => M 2 j) n (skp (fun j => M 2 j) n p)) lo hi = nF (fun j => M 2 j) n p lo hi := rfl
  unfold mNum
  rw [e]
  by_cases hf : nF (fun j => M 2 j) n p lo hi = 0
  · rw [if_pos hf, if_pos hf]
    exact ⟨(up2_ne (by omega)).trans ((up2_ne (by omega)).trans (h0.trans hf.symm)), (up2_ne (by omega)).trans (up2_ne (by omega))⟩
  · rw [if_neg hf, if_neg hf]
    unfold mBlame
    rw [if_pos (show up2 M 1 3 _ 1 4 = 0 from (up2_ne (by omega)).trans h0)]
    exact ⟨(up2_ne (by omega)).trans ((up2_ne (by omega)).trans up2_same), (up2_ne (by omega)).trans up2_same⟩
theorem mNum_k (h0 : ¬ M 1 4 = 0) : mNum M n p lo hi 1 4 = M 1 4 ∧ mNum M n p lo hi 1 5 = M 1 5 := by
  unfold mNum
  split
  · exact ⟨(up2_ne (by omega)).trans (up2_ne (by omega)), (up2_ne (by omega)).trans (up2_ne (by omega))⟩
  · unfold mBlame
    rw [if_neg (show ¬ up2 M 1 3 _ 1 4 = 0 from fun q => h0 ((up2_ne (by omega)).symm.trans q))]
    exact ⟨(up2_ne (by omega)).trans (up2_ne (by omega)), (up2_ne (by omega)).trans (up2_ne (by omega))⟩
theorem mNum_T (hT : (fun j => M 2 j) = T) : (fun j => mNum M n p lo hi 2 j) = T := by
  rw [← hT]
  funext j
  exact mNum_ne (by omega)
theorem numV_T (hT : (fun j => M 2 j) = T) : numV M n p = nV T n p := by
  subst hT
  rfl
theorem tyC_ok : ∀ d c, c + d = 8 → 0 < d → (∀ i, i < c → OkC T n p i) → c ≤ tyC T n p d c ∧ tyC T n p d c < 8 ∧ ∀ i, i < tyC T n p d c → OkC T n p i
  | 0, c, _, h, _ => by omega
  | d + 1, c, h, _, hi => by
    show c ≤ (if c + 1 < 8 ∧ nF T n (posI T n p c) 0 4 = 0 ∧ numP T n (posI T n p c) < n ∧ T (numP T n (posI T n p c)) = 44 then tyC T n p d (c + 1) else c) ∧ (if c + 1 < 8 ∧ nF T n (posI T n p c) 0 4 = 0 ∧ numP T n (posI T n p c) < n ∧ T (numP T n (posI T n p c)) = 44 then tyC T n p d (c + 1) else c) < 8 ∧ ∀ i, i < (if c + 1 < 8 ∧ nF T n (posI T n p c) 0 4 = 0 ∧ numP T n (posI T n p c) < n ∧ T (numP T n (posI T n p c)) = 44 then tyC T n p d (c + 1) else c) → OkC T n p i
    by_cases hc : c + 1 < 8 ∧ nF T n (posI T n p c) 0 4 = 0 ∧ numP T n (posI T n p c) < n ∧ T (numP T n (posI T n p c)) = 44
    · rw [if_pos hc]
      have := tyC_ok d (c + 1) (by omega) (by omega) (fun i hi2 => by
        by_cases e : i = c
        · rw [e]; exact hc.2
        · exact hi i (by omega))
      exact ⟨by omega, this.2.1, this.2.2⟩
    · rw [if_neg hc]
      exact ⟨by omega, by omega, hi⟩
theorem tyL_ok : tyL T n p < 8 ∧ ∀ i, i < tyL T n p → OkC T n p i := by
  have := tyC_ok (T := T) (n := n) (p := p) 8 0 (by omega) (by omega) (fun i h => absurd h (by omega))
  exact this.2
theorem tyS_stick : ∀ d (M : inm) p c, ¬ M 1 4 = 0 → (tyS n d M p c).1 1 4 = M 1 4 ∧ (tyS n d M p c).1 1 5 = M 1 5
  | 0, M, p, c, _ => ⟨rfl, rfl⟩
  | d + 1, M, p, c, h => by
    obtain ⟨k1, k2⟩ := mNum_k (n := n) (p := p) (lo := 0) (hi := 4) h
    unfold tyS
    split
    · have e1 : (up2 (up2 (mNum M n p 0 4) 3 c (numV M n p)) 1 3 ((numP (fun j => M 2 j) n p + 1 : Nat) : Int)) 1 4 = M 1 4 := (up2_ne (by omega)).trans ((up2_ne (by omega)).trans k1)
      have e2 : (up2 (up2 (mNum M n p 0 4) 3 c (numV M n p)) 1 3 ((numP (fun j => M 2 j) n p + 1 : Nat) : Int)) 1 5 = M 1 5 := (up2_ne (by omega)).trans ((up2_ne (by omega)).trans k2)
      obtain ⟨i1, i2⟩ := tyS_stick d (up2 (up2 (mNum M n p 0 4) 3 c (numV M n p)) 1 3 ((numP (fun j => M 2 j) n p + 1 : Nat) : Int)) (numP (fun j => M 2 j) n p + 1) (c + 1) (by rw [e1]; exact h)
      exact ⟨i1.trans e1, i2.trans e2⟩
    · show up2 (mNum M n p 0 4) 3 c (numV M n p) 1 4 = M 1 4 ∧ up2 (mNum M n p 0 4) 3 c (numV M n p) 1 5 = M 1 5
      exact ⟨(up2_ne (by omega)).trans k1, (up2_ne (by omega)).trans k2⟩
theorem tyS_row : ∀ d (M : inm) p c i, i < c → (tyS n d M p c).1 3 i = M 3 i
  | 0, M, p, c, i, _ => rfl
  | d + 1, M, p, c, i, h => by
    unfold tyS
    split
    · refine (tyS_row d _ _ (c + 1) i (by omega)).trans ?_
      exact (up2_ne (by omega)).trans ((up2_ne (by omega)).trans (mNum_ne (by omega)))
    · exact (up2_ne (by omega)).trans (mNum_ne (by omega))
theorem tyS_spec : ∀ d c (M : inm), c + d = 8 → 0 < d → (fun j => M 2 j) = T → M 1 4 = 0 → (∀ i, i < c → OkC T n p i) →
    (tyS n d M (posI T n p c) c).1 1 4 = nF T n (posI T n p (tyL T n p)) 0 4 ∧ (¬ nF T n (posI T n p (tyL T n p)) 0 4 = 0 → (tyS n d M (posI T n p c) c).1 1 5 = ((numB T n (posI T n p (tyL T n p)) : Nat) : Int)) ∧ (nF T n (posI T n p (tyL T n p)) 0 4 = 0 → (tyS n d M (posI T n p c) c).1 1 5 = M 1 5 ∧ (tyS n d M (posI T n p c) c).2.1 = numP T n (posI T n p (tyL T n p)) ∧ (tyS n d M (posI T n p c) c).2.2 = tyL T n p + 1 ∧ ∀ i, c ≤ i → i ≤ tyL T n p → (tyS n d M (posI T n p c) c).1 3 i = nV T n (posI T n p i))
  | 0, c, M, _, h, _, _, _ => by omega
  | d + 1, c, M, hcd, _, hT, h0, hi => by
    obtain ⟨f1, f2⟩ := mNum_f (n := n) (p := posI T n p c) (lo := 0) (hi := 4) hT h0
    have hV := numV_T (n := n) (p := posI T n p c) hT
    have e : tyS n (d + 1) M (posI T n p c) c = if c + 1 < 8 ∧ numP T n (posI T n p c) < n ∧ T (numP T n (posI T n p c)) = 44 then tyS n d (up2 (up2 (mNum M n (posI T n p c) 0 4) 3 c (nV T n (posI T n p c))) 1 3 ((numP T n (posI T n p c) + 1 : Nat) : Int)) (numP T n (posI T n p c) + 1) (c + 1) else (up2 (mNum M n (posI T n p c) 0 4) 3 c (nV T n (posI T n p c)), numP T n (posI T n p c), c + 1) := by
      rw [← hV]
      subst hT
      rfl
    rw [e]
    by_cases hc : c + 1 < 8 ∧ numP T n (posI T n p c) < n ∧ T (numP T n (posI T n p c)) = 44
    · rw [if_pos hc]
      have g4 : (up2 (up2 (mNum M n (posI T n p c) 0 4) 3 c (nV T n (posI T n p c))) 1 3 ((numP T n (posI T n p c) + 1 : Nat) : Int)) 1 4 = nF T n (posI T n p c) 0 4 := (up2_ne (by omega)).trans ((up2_ne (by omega)).trans f1)
      have g5 : (up2 (up2 (mNum M n (posI T n p c) 0 4) 3 c (nV T n (posI T n p c))) 1 3 ((numP T n (posI T n p c) + 1 : Nat) : Int)) 1 5 = if nF T n (posI T n p c) 0 4 = 0 then M 1 5 else ((numB T n (posI T n p c) : Nat) : Int) := (up2_ne (by omega)).trans ((up2_ne (by omega)).trans f2)
      by_cases hf : nF T n (posI T n p c) 0 4 = 0
      · have hok : OkC T n p c := ⟨hf, hc.2⟩
        have gT : (fun j => (up2 (up2 (mNum M n (posI T n p c) 0 4) 3 c (nV T n (posI T n p c))) 1 3 ((numP T n (posI T n p c) + 1 : Nat) : Int)) 2 j) = T := by
          refine Eq.trans ?_ (mNum_T (n := n) (p := posI T n p c) (lo := 0) (hi := 4) hT)
          funext j
          exact (up2_ne (by omega)).trans (up2_ne (by omega))
        obtain ⟨i1, i2, i3⟩ := tyS_spec d (c + 1) _ (by omega) (by omega) gT (g4.trans hf) (fun i hi2 => by
          by_cases e : i = c
          · rw [e]; exact hok
          · exact hi i (by omega))
        refine ⟨i1, i2, fun q => ?_⟩
        obtain ⟨j1, j2, j3, j4⟩ := i3 q
        refine ⟨j1.trans (g5.trans (if_pos hf)), j2, j3, fun i h1 h2 => ?_⟩
        by_cases e : i = c
        · subst e
          refine (tyS_row d _ _ (i + 1) i (by omega)).trans ?_
          exact (up2_ne (by omega)).trans up2_same
        · exact j4 i (by omega) h2
      · have hl : tyL T n p = c := tyC_eq (by omega) hi (fun q => hf q.2.1)
        rw [hl]
        obtain ⟨i1, i2⟩ := tyS_stick (n := n) d (up2 (up2 (mNum M n (posI T n p c) 0 4) 3 c (nV T n (posI T n p c))) 1 3 ((numP T n (posI T n p c) + 1 : Nat) : Int)) (numP T n (posI T n p c) + 1) (c + 1) (by rw [g4]; exact hf)
        exact ⟨i1.trans g4, fun _ => i2.trans (g5.trans (if_neg hf)), fun q => absurd q hf⟩
    · rw [if_neg hc]
      have hl : tyL T n p = c := tyC_eq (by omega) hi (fun q => hc ⟨q.1, q.2.2⟩)
      rw [hl]
      dsimp only
      refine ⟨(up2_ne (by omega)).trans f1, fun q => (up2_ne (by omega)).trans (f2.trans (if_neg q)), fun q => ⟨(up2_ne (by omega)).trans (f2.trans (if_pos q)), rfl, rfl, fun i h1 h2 => ?_⟩⟩
      rw [show i = c by omega]
      exact up2_same
end Num
/-- what a clause adds to the draft v -/
def CDS (v : Nat) (A A' : inm) (T : Nat → Int) (n p : Nat) (c : Int) (L E Y : Nat) : Prop :=
  A' v 0 = A v 0 ∧ A' v 1 = (if c = 109 then nV T n p else A v 1) ∧
  A' v 2 = (if c = 108 then ((L + 1 : Nat) : Int) else A v 2) ∧
  A' v 3 = (if c = 101 then ((E + 1 : Nat) : Int) else A v 3) ∧
  A' v 4 = (if c = 116 then ((Y + 1 : Nat) : Int) else A v 4) ∧
  (∀ j, A' (v + 1) j = if c = 108 ∧ j = L then nV T n p else A (v + 1) j) ∧
  (∀ j, A' (v + 2) j = if c = 108 ∧ j = L then nV T n (numE T n p) else A (v + 2) j) ∧
  (∀ j, A' (v + 3) j = if c = 101 ∧ j = E then nV T n p else A (v + 3) j) ∧
  (∀ j, A' (v + 4) j = if c = 101 ∧ j = E then nV T n (numE T n p) else A (v + 4) j) ∧
  (∀ j, A' (v + 5) j = if c = 116 ∧ j = Y then ((tyL T n p + 1 : Nat) : Int) else A (v + 5) j) ∧
  (∀ t k, t < 6 → (c = 116 → t ≠ Y) → A' (v + 7 + t) k = A (v + 7 + t) k) ∧
  (c = 116 → ∀ i, i ≤ tyL T n p → A' (v + 7 + Y) i = nV T n (posI T n p i))
theorem CDS.of {v : Nat} {A A' A1 A2 : inm} {T : Nat → Int} {n p : Nat} {c : Int} {L E Y : Nat} (hA : ∀ x j, v ≤ x → x ≤ v + 12 → A1 x j = A x j) (hA' : ∀ x j, v ≤ x → x ≤ v + 12 → A2 x j = A' x j) (hY : Y ≤ 6) (hY6 : c = 116 → Y < 6) (h : CDS v A A' T n p c L E Y) : CDS v A1 A2 T n p c L E Y := by
  obtain ⟨h0, h1, h2, h3, h4, h5, h6, h7, h8, h9, h10, h11⟩ := h
  refine ⟨?_, ?_, ?_, ?_, ?_, fun j => ?_, fun j => ?_, fun j => ?_, fun j => ?_, fun j => ?_, fun t k ht hc => ?_, fun hc i hi => ?_⟩
  · rw [hA' _ _ (by omega) (by omega), hA _ _ (by omega) (by omega)]; exact h0
  · rw [hA' _ _ (by omega) (by omega), hA _ _ (by omega) (by omega)]; exact h1
  · rw [hA' _ _ (by omega) (by omega), hA _ _ (by omega) (by omega)]; exact h2
  · rw [hA' _ _ (by omega) (by omega), hA _ _ (by omega) (by omega)]; exact h3
  · rw [hA' _ _ (by omega) (by omega), hA _ _ (by omega) (by omega)]; exact h4
  · rw [hA' _ _ (by omega) (by omega), hA _ _ (by omega) (by omega)]; exact h5 j
  · rw [hA' _ _ (by omega) (by omega), hA _ _ (by omega) (by omega)]; exact h6 j
  · rw [hA' _ _ (by omega) (by omega), hA _ _ (by omega) (by omega)]; exact h7 j
  · rw [hA' _ _ (by omega) (by omega), hA _ _ (by omega) (by omega)]; exact h8 j
  · rw [hA' _ _ (by omega) (by omega), hA _ _ (by omega) (by omega)]; exact h9 j
  · rw [hA' _ _ (by omega) (by omega), hA _ _ (by omega) (by omega)]; exact h10 t k ht hc
  · have := hY6 hc
    rw [hA' _ _ (by omega) (by omega)]; exact h11 hc i hi
section Rest
variable {T : Nat → Int} {n p v L E Y : Nat} {M : inm}
theorem two_f {lo hi lo2 hi2 : Int} (hT : (fun j => M 2 j) = T) (h0 : M 1 4 = 0) : (mNum (mNum M n p lo hi) n (numP T n p) lo2 hi2 1 4 = if nF T n p lo hi = 0 then nF T n (numE T n p) lo2 hi2 else nF T n p lo hi) ∧ (¬ (if nF T n p lo hi = 0 then nF T n (numE T n p) lo2 hi2 else nF T n p lo hi) = 0 → mNum (mNum M n p lo hi) n (numP T n p) lo2 hi2 1 5 = (((if nF T n p lo hi = 0 then numB T n (numE T n p) else numB T n p) : Nat) : Int)) ∧ ((if nF T n p lo hi = 0 then nF T n (numE T n p) lo2 hi2 else nF T n p lo hi) = 0 → mNum (mNum M n p lo hi) n (numP T n p) lo2 hi2 1 5 = M 1 5) := by
  obtain ⟨f1, f2⟩ := mNum_f (n := n) (p := p) (lo := lo) (hi := hi) hT h0
  have hT2 := mNum_T (n := n) (p := p) (lo := lo) (hi := hi) hT
  by_cases hf : nF T n p lo hi = 0
  · rw [if_pos hf, if_pos hf]
    obtain ⟨g1, g2⟩ := mNum_f (n := n) (p := numP T n p) (lo := lo2) (hi := hi2) hT2 (f1.trans hf)
    rw [numP_E, nF_s] at g1
    rw [numP_E, nF_s, numB_s] at g2
    rw [numP_E]
    rw [if_pos hf] at f2
    exact ⟨g1, fun q => g2.trans (if_neg q), fun q => g2.trans ((if_pos q).trans f2)⟩
  · rw [if_neg hf, if_neg hf]
    obtain ⟨g1, g2⟩ := mNum_k (n := n) (p := numP T n p) (lo := lo2) (hi := hi2) (M := mNum M n p lo hi) (by rw [f1]; exact hf)
    rw [if_neg hf] at f2
    exact ⟨g1.trans f1, fun _ => g2.trans f2, fun q => absurd q hf⟩
theorem rest_spec {c : Int} (hv : 4 ≤ v) (hT : (fun j => M 2 j) = T) (h0 : M 1 4 = 0) (hc : c = 109 ∨ c = 108 ∨ c = 101 ∨ c = 116) (hY : Y < 6 ∨ c = 109 ∨ c = 108 ∨ c = 101) :
    mRest M v n p c L E Y 1 4 = bdF T n p c ∧ (¬ bdF T n p c = 0 → mRest M v n p c L E Y 1 5 = ((bdB T n p c : Nat) : Int)) ∧ (bdF T n p c = 0 → mRest M v n p c L E Y 1 5 = M 1 5 ∧ rsP M n p c = bdE T n p c ∧ CDS v M (mRest M v n p c L E Y) T n p c L E Y) := by
  have hE : (fun j => M 2 j) = T := hT
  rcases hc with rfl | rfl | rfl | rfl
  · have e : mRest M v n p 109 L E Y = up2 (mNum M n p 0 99) v 1 (nV T n p) := by
      unfold mRest
      rw [if_pos rfl, numV_T hT]
    obtain ⟨f1, f2⟩ := mNum_f (n := n) (p := p) (lo := 0) (hi := 99) hT h0
    have b1 : bdF T n p 109 = nF T n p 0 99 := by unfold bdF; rw [if_pos rfl]
    have b2 : bdB T n p 109 = numB T n p := by unfold bdB; rw [if_pos rfl]
    have b3 : bdE T n p 109 = numP T n p := by unfold bdE; rw [if_pos rfl]
    have b4 : rsP M n p 109 = numP T n p := by unfold rsP; rw [if_pos rfl, hT]
    rw [e, b1, b2, b3, b4]
    have x : ∀ y j, y ≠ 1 → (y ≠ v ∨ j ≠ 1) → up2 (mNum M n p 0 99) v 1 (nV T n p) y j = M y j := fun y j h1 h2 => (up2_ne (by omega)).trans (mNum_ne (by omega))
    refine ⟨(up2_ne (by omega)).trans f1, fun q => (up2_ne (by omega)).trans (f2.trans (if_neg q)), fun q => ⟨(up2_ne (by omega)).trans (f2.trans (if_pos q)), rfl, x _ _ (by omega) (by omega), up2_same, x _ _ (by omega) (by omega), x _ _ (by omega) (by omega), x _ _ (by omega) (by omega), fun j => ?_, fun j => ?_, fun j => ?_, fun j => ?_, fun j => ?_, fun t k _ _ => x _ _ (by omega) (by omega), fun q => absurd q (by decide)⟩⟩
    all_goals (rw [if_neg (fun q => absurd q.1 (by decide))]; exact x _ _ (by omega) (by omega))
  · have e : mRest M v n p 108 L E Y = maddLayer (mNum (mNum M n p 0 4) n (numP T n p) 1 20) v L (nV T n p) (nV T n (numE T n p)) := by
      unfold mRest
      rw [if_neg (by decide), if_pos rfl, hT, numV_T hT, numV_T (mNum_T hT), numP_E, nV_s]
    obtain ⟨f1, f2, f3⟩ := two_f (n := n) (p := p) (lo := 0) (hi := 4) (lo2 := 1) (hi2 := 20) hT h0
    have b1 : bdF T n p 108 = if nF T n p 0 4 = 0 then nF T n (numE T n p) 1 20 else nF T n p 0 4 := by unfold bdF; rw [if_neg (by decide), if_pos rfl]
    have b2 : bdB T n p 108 = if nF T n p 0 4 = 0 then numB T n (numE T n p) else numB T n p := by unfold bdB; rw [if_neg (by decide), if_pos rfl]
    have b3 : bdE T n p 108 = numP T n (numE T n p) := by unfold bdE; rw [if_neg (by decide), if_pos (Or.inl rfl)]
    have b4 : rsP M n p 108 = numP T n (numE T n p) := by unfold rsP; rw [if_neg (by decide), if_pos (Or.inl rfl), hT]; rw [numP_E (q := p), numP_s]
    rw [e, b1, b2, b3, b4]
    unfold maddLayer
    have x : ∀ y j, y ≠ 1 → (y ≠ v ∨ j ≠ 2) → (y ≠ v + 1 ∨ j ≠ L) → (y ≠ v + 2 ∨ j ≠ L) → up2 (up2 (up2 (mNum (mNum M n p 0 4) n (numP T n p) 1 20) (v + 1) L (nV T n p)) (v + 2) L (nV T n (numE T n p))) v 2 ((L + 1 : Nat) : Int) y j = M y j := fun y j h1 h2 h3 h4 => (up2_ne (by omega)).trans ((up2_ne (by omega)).trans ((up2_ne (by omega)).trans ((mNum_ne (by omega)).trans (mNum_ne (by omega)))))
    refine ⟨(up2_ne (by omega)).trans ((up2_ne (by omega)).trans ((up2_ne (by omega)).trans f1)), fun q => (up2_ne (by omega)).trans ((up2_ne (by omega)).trans ((up2_ne (by omega)).trans (f2 q))), fun q => ⟨(up2_ne (by omega)).trans ((up2_ne (by omega)).trans ((up2_ne (by omega)).trans (f3 q))), rfl, x _ _ (by omega) (by omega) (by omega) (by omega), x _ _ (by omega) (by omega) (by omega) (by omega), up2_same, x _ _ (by omega) (by omega) (by omega) (by omega), x _ _ (by omega) (by omega) (by omega) (by omega), fun j => ?_, fun j => ?_, fun j => ?_, fun j => ?_, fun j => ?_, fun t k _ _ => x _ _ (by omega) (by omega) (by omega) (by omega), fun q => absurd q (by decide)⟩⟩
    · by_cases hj : j = L
      · rw [if_pos ⟨rfl, hj⟩, hj]
        exact (up2_ne (by omega)).trans ((up2_ne (by omega)).trans up2_same)
      · rw [if_neg (fun q => hj q.2)]
        exact x _ _ (by omega) (by omega) (by omega) (by omega)
    · by_cases hj : j = L
      · rw [if_pos ⟨rfl, hj⟩, hj]
        exact (up2_ne (by omega)).trans up2_same
      · rw [if_neg (fun q => hj q.2)]
        exact x _ _ (by omega) (by omega) (by omega) (by omega)
    all_goals (rw [if_neg (fun q => absurd q.1 (by decide))]; exact x _ _ (by omega) (by omega) (by omega) (by omega))
  · have e : mRest M v n p 101 L E Y = maddExecutor (mNum (mNum M n p 0 9) n (numP T n p) 1 9) v E (nV T n p) (nV T n (numE T n p)) := by
      unfold mRest
      rw [if_neg (by decide), if_neg (by decide), if_pos rfl, hT, numV_T hT, numV_T (mNum_T hT), numP_E, nV_s]
    obtain ⟨f1, f2, f3⟩ := two_f (n := n) (p := p) (lo := 0) (hi := 9) (lo2 := 1) (hi2 := 9) hT h0
    have b1 : bdF T n p 101 = if nF T n p 0 9 = 0 then nF T n (numE T n p) 1 9 else nF T n p 0 9 := by unfold bdF; rw [if_neg (by decide), if_neg (by decide), if_pos rfl]
    have b2 : bdB T n p 101 = if nF T n p 0 9 = 0 then numB T n (numE T n p) else numB T n p := by unfold bdB; rw [if_neg (by decide), if_neg (by decide), if_pos rfl]
    have b3 : bdE T n p 101 = numP T n (numE T n p) := by unfold bdE; rw [if_neg (by decide), if_pos (Or.inr rfl)]
    have b4 : rsP M n p 101 = numP T n (numE T n p) := by unfold rsP; rw [if_neg (by decide), if_pos (Or.inr rfl), hT]; rw [numP_E (q := p), numP_s]
    rw [e, b1, b2, b3, b4]
    unfold maddExecutor
    have x : ∀ y j, y ≠ 1 → (y ≠ v ∨ j ≠ 3) → (y ≠ v + 3 ∨ j ≠ E) → (y ≠ v + 4 ∨ j ≠ E) → up2 (up2 (up2 (mNum (mNum M n p 0 9) n (numP T n p) 1 9) (v + 3) E (nV T n p)) (v + 4) E (nV T n (numE T n p))) v 3 ((E + 1 : Nat) : Int) y j = M y j := fun y j h1 h2 h3 h4 => (up2_ne (by omega)).trans ((up2_ne (by omega)).trans ((up2_ne (by omega)).trans ((mNum_ne (by omega)).trans (mNum_ne (by omega)))))
    refine ⟨(up2_ne (by omega)).trans ((up2_ne (by omega)).trans ((up2_ne (by omega)).trans f1)), fun q => (up2_ne (by omega)).trans ((up2_ne (by omega)).trans ((up2_ne (by omega)).trans (f2 q))), fun q => ⟨(up2_ne (by omega)).trans ((up2_ne (by omega)).trans ((up2_ne (by omega)).trans (f3 q))), rfl, x _ _ (by omega) (by omega) (by omega) (by omega), x _ _ (by omega) (by omega) (by omega) (by omega), x _ _ (by omega) (by omega) (by omega) (by omega), up2_same, x _ _ (by omega) (by omega) (by omega) (by omega), fun j => ?_, fun j => ?_, fun j => ?_, fun j => ?_, fun j => ?_, fun t k _ _ => x _ _ (by omega) (by omega) (by omega) (by omega), fun q => absurd q (by decide)⟩⟩
    rotate_left 2
    · by_cases hj : j = E
      · rw [if_pos ⟨rfl, hj⟩, hj]
        exact (up2_ne (by omega)).trans ((up2_ne (by omega)).trans up2_same)
      · rw [if_neg (fun q => hj q.2)]
        exact x _ _ (by omega) (by omega) (by omega) (by omega)
    · by_cases hj : j = E
      · rw [if_pos ⟨rfl, hj⟩, hj]
        exact (up2_ne (by omega)).trans up2_same
      · rw [if_neg (fun q => hj q.2)]
        exact x _ _ (by omega) (by omega) (by omega) (by omega)
    all_goals (rw [if_neg (fun q => absurd q.1 (by decide))]; exact x _ _ (by omega) (by omega) (by omega) (by omega))
  · have hY6 : Y < 6 := by omega
    have e : mRest M v n p 116 L E Y = mType M v n p Y := by
      unfold mRest
      rw [if_neg (by decide), if_neg (by decide), if_neg (by decide)]
    obtain ⟨s1, s2, s3⟩ := tyS_spec (T := T) (n := n) (p := p) 8 0 M (by omega) (by omega) hT h0 (fun i h => absurd h (by omega))
    have hp0 : posI T n p 0 = p := rfl
    rw [hp0] at s1 s2 s3
    have b1 : bdF T n p 116 = nF T n (posI T n p (tyL T n p)) 0 4 := by unfold bdF; rw [if_neg (by decide), if_neg (by decide), if_neg (by decide)]
    have b2 : bdB T n p 116 = numB T n (posI T n p (tyL T n p)) := by unfold bdB; rw [if_neg (by decide), if_neg (by decide), if_neg (by decide)]
    have b3 : bdE T n p 116 = numP T n (posI T n p (tyL T n p)) := by unfold bdE; rw [if_neg (by decide), if_neg (by decide)]
    have b4 : rsP M n p 116 = (tyS n 8 M p 0).2.1 := by unfold rsP; rw [if_neg (by decide), if_neg (by decide)]
    rw [e, b1, b2, b3, b4]
    have hk : ∀ y j, y ≠ 1 → y ≠ 3 → (tyS n 8 M p 0).1 y j = M y j := by
      have key : ∀ d (M : inm) p c, ∀ y j, y ≠ 1 → y ≠ 3 → (tyS n d M p c).1 y j = M y j := by
        intro d
        induction d with
        | zero => intro M p c y j _ _; rfl
        | succ d ih =>
          intro M p c y j h1 h2
          unfold tyS
          split
          · refine (ih _ _ _ y j h1 h2).trans ?_
            exact (up2_ne (by omega)).trans ((up2_ne (by omega)).trans (mNum_ne (by omega)))
          · exact (up2_ne (by omega)).trans (mNum_ne (by omega))
      exact key 8 M p 0
    unfold mType maddType
    have z : ∀ j, j ≠ 3 → up2 (up2 (cp2 (tyS n 8 M p 0).1 3 0 (v + 7 + Y) 0 (tyS n 8 M p 0).2.2) (v + 5) Y (((tyS n 8 M p 0).2.2 : Nat) : Int)) v 4 ((Y + 1 : Nat) : Int) 1 j = (tyS n 8 M p 0).1 1 j := fun j hj => (up2_ne (by omega)).trans ((up2_ne (by omega)).trans (cp2_ne (by omega)))
    have x : ∀ y j, y ≠ 1 → y ≠ 3 → (y ≠ v ∨ j ≠ 4) → (y ≠ v + 5 ∨ j ≠ Y) → y ≠ v + 7 + Y → up2 (up2 (cp2 (tyS n 8 M p 0).1 3 0 (v + 7 + Y) 0 (tyS n 8 M p 0).2.2) (v + 5) Y (((tyS n 8 M p 0).2.2 : Nat) : Int)) v 4 ((Y + 1 : Nat) : Int) y j = M y j := fun y j h1 h2 h3 h4 h5 => (up2_ne (by omega)).trans ((up2_ne (by omega)).trans ((cp2_ne (by omega)).trans (hk y j h1 h2)))
    refine ⟨(z 4 (by omega)).trans s1, fun q => (z 5 (by omega)).trans (s2 q), fun q => ?_⟩
    obtain ⟨r1, r2, r3, r4⟩ := s3 q
    refine ⟨(z 5 (by omega)).trans r1, r2, x _ _ (by omega) (by omega) (by omega) (by omega) (by omega), x _ _ (by omega) (by omega) (by omega) (by omega) (by omega), x _ _ (by omega) (by omega) (by omega) (by omega) (by omega), x _ _ (by omega) (by omega) (by omega) (by omega) (by omega), up2_same, fun j => ?_, fun j => ?_, fun j => ?_, fun j => ?_, fun j => ?_, fun t k ht hc => x _ _ (by omega) (by omega) (by omega) (by omega) (by have := hc rfl; omega), fun _ i hi => ?_⟩
    rotate_left 4
    · by_cases hj : j = Y
      · rw [if_pos ⟨rfl, hj⟩, hj]
        refine (up2_ne (by omega)).trans (up2_same.trans ?_)
        rw [r3]
      · rw [if_neg (fun q => hj q.2)]
        exact x _ _ (by omega) (by omega) (by omega) (by omega) (by omega)
    · refine (up2_ne (by omega)).trans ((up2_ne (by omega)).trans ((cp2_in (by omega) (by rw [r3]; omega)).trans ?_))
      rw [show 0 + (i - 0) = i by omega]
      exact r4 i (by omega) hi
    all_goals (rw [if_neg (fun q => absurd q.1 (by decide))]; exact x _ _ (by omega) (by omega) (by omega) (by omega) (by omega))
end Rest
