/-! ===== reading: a clause, both ===== -/
section ClauseS
variable {T : Nat → Int} {n p v L E Y : Nat}
theorem clF_in {md : Int} : 0 ≤ clF T n p md L E Y ∧ clF T n p md L E Y ≤ 3 := by
  have h := bdF_in (T := T) (n := n) (p := p + 1) (c := T p)
  unfold clF
  split
  · omega
  · split
    · omega
    · split
      · omega
      · split <;> omega
theorem clause_spec {md : Int} {A : inm} (hv : Cs v) (hT : (fun j => A 2 j) = T) (hp : p < n) (h0 : A 1 4 = 0) (hmd : A v 1 = md ∧ (md = -1 ∨ 0 ≤ md)) (hL : A v 2 = (L : Int) ∧ L ≤ 12) (hE : A v 3 = (E : Int) ∧ E ≤ 5) (hY : A v 4 = (Y : Int) ∧ Y ≤ 6) :
    (∀ y j, (y ≠ 1 ∨ (j ≠ 3 ∧ j ≠ 4 ∧ j ≠ 5)) → y ≠ 3 → (y < v ∨ v + 12 < y) → mClause A v n p L E Y y j = A y j) ∧
    mClause A v n p L E Y 1 4 = clF T n p md L E Y ∧ (¬ clF T n p md L E Y = 0 → mClause A v n p L E Y 1 5 = ((clP T n p md L E Y : Nat) : Int)) ∧
    (clF T n p md L E Y = 0 → mClause A v n p L E Y 1 5 = A 1 5 ∧ mClause A v n p L E Y 1 3 = ((skp T n (bdE T n (p + 1) (T p) + 1) : Nat) : Int) ∧ (p + 1 ≤ bdE T n (p + 1) (T p) ∧ bdE T n (p + 1) (T p) < n) ∧ bdF T n (p + 1) (T p) = 0 ∧ (T p = 109 ∨ T p = 108 ∨ T p = 101 ∨ T p = 116) ∧ (T p = 109 → md = -1) ∧ (¬ T p = 109 → 0 ≤ md) ∧ (T p = 108 → L < 12) ∧ (T p = 101 → E < 5) ∧ (T p = 116 → Y < 6) ∧ CDS v A (mClause A v n p L E Y) T n (p + 1) (T p) L E Y) := by
  have hv4 : 4 ≤ v := by rcases hv with q | q <;> omega
  have hTp : A 2 p = T p := congrFun hT p
  by_cases c1 : ¬ (T p = 109 ∨ T p = 108 ∨ T p = 101 ∨ T p = 116) ∨ (¬ T p = 109 ∧ md < 0)
  · have c1' : ¬ (T p = 109 ∨ T p = 108 ∨ T p = 101 ∨ T p = 116) ∨ (¬ T p = 109 ∧ A v 1 = -1) := by rw [hmd.1]; omega
    have eM : mClause A v n p L E Y = up2 (up2 A 1 4 1) 1 5 (p : Int) := by
      unfold mClause
      rw [hTp, if_pos c1']
      unfold mBlame
      rw [if_pos h0]
    have eF : clF T n p md L E Y = 1 := by unfold clF; rw [if_pos c1]
    have eP : clP T n p md L E Y = p := by unfold clP; rw [if_pos c1]
    rw [eM, eF, eP]
    exact ⟨fun y j h1 h2 h3 => (up2_ne (by omega)).trans (up2_ne (by omega)), (up2_ne (by omega)).trans up2_same, fun _ => up2_same, fun q => absurd q (by decide)⟩
  have c1' : ¬ (¬ (T p = 109 ∨ T p = 108 ∨ T p = 101 ∨ T p = 116) ∨ (¬ T p = 109 ∧ A v 1 = -1)) := by rw [hmd.1]; omega
  have hk : T p = 109 ∨ T p = 108 ∨ T p = 101 ∨ T p = 116 := by omega
  have hfull : (¬ fullV A v (T p) = 0) ↔ ((T p = 109 ∧ 0 ≤ md) ∨ (T p = 108 ∧ L = 12) ∨ (T p = 101 ∧ E = 5) ∨ (T p = 116 ∧ Y = 6)) := by
    unfold fullV
    rw [hmd.1, hL.1, hE.1, hY.1]
    have := hL.2
    have := hE.2
    have := hY.2
    have := hmd.2
    rcases hk with q | q | q | q <;> rw [q]
    · rw [if_pos rfl]
      split <;> omega
    · rw [if_neg (by decide), if_pos rfl]
      split <;> omega
    · rw [if_neg (by decide), if_neg (by decide), if_pos rfl]
      split <;> omega
    · rw [if_neg (by decide), if_neg (by decide), if_neg (by decide)]
      split <;> omega
  by_cases c2 : (T p = 109 ∧ 0 ≤ md) ∨ (T p = 108 ∧ L = 12) ∨ (T p = 101 ∧ E = 5) ∨ (T p = 116 ∧ Y = 6)
  · have eM : mClause A v n p L E Y = up2 (up2 A 1 4 3) 1 5 (p : Int) := by
      unfold mClause
      rw [hTp, if_neg c1', if_pos (hfull.mpr c2)]
      unfold mBlame
      rw [if_pos h0]
    have eF : clF T n p md L E Y = 3 := by unfold clF; rw [if_neg c1, if_pos c2]
    have eP : clP T n p md L E Y = p := by unfold clP; rw [if_neg c1, if_pos c2]
    rw [eM, eF, eP]
    exact ⟨fun y j h1 h2 h3 => (up2_ne (by omega)).trans (up2_ne (by omega)), (up2_ne (by omega)).trans up2_same, fun _ => up2_same, fun q => absurd q (by decide)⟩
  have hYc : Y < 6 ∨ T p = 109 ∨ T p = 108 ∨ T p = 101 := by have := hY.2; omega
  have hT0 : (fun j => up2 A 1 3 ((p + 1 : Nat) : Int) 2 j) = T := by
    rw [← hT]
    funext j
    exact up2_ne (by omega)
  have h00 : up2 A 1 3 ((p + 1 : Nat) : Int) 1 4 = 0 := (up2_ne (by omega)).trans h0
  obtain ⟨r1, r2, r3⟩ := rest_spec (n := n) (p := p + 1) (L := L) (E := E) (Y := Y) hv4 hT0 h00 hk hYc
  have hfr : ∀ y j, (y ≠ 1 ∨ (j ≠ 3 ∧ j ≠ 4 ∧ j ≠ 5)) → y ≠ 3 → (y < v ∨ v + 12 < y) → mRest (up2 A 1 3 ((p + 1 : Nat) : Int)) v n (p + 1) (T p) L E Y y j = A y j := fun y j h1 h2 h3 => (mRest_ne (by omega) hYc h1 h2 h3).trans (up2_ne (by omega))
  have eM0 : mClause A v n p L E Y = if rsP (up2 A 1 3 ((p + 1 : Nat) : Int)) n (p + 1) (T p) < n ∧ T (rsP (up2 A 1 3 ((p + 1 : Nat) : Int)) n (p + 1) (T p)) = 59 then up2 (mRest (up2 A 1 3 ((p + 1 : Nat) : Int)) v n (p + 1) (T p) L E Y) 1 3 ((skp T n (rsP (up2 A 1 3 ((p + 1 : Nat) : Int)) n (p + 1) (T p) + 1) : Nat) : Int) else mBlame (mRest (up2 A 1 3 ((p + 1 : Nat) : Int)) v n (p + 1) (T p) L E Y) 1 ((rsP (up2 A 1 3 ((p + 1 : Nat) : Int)) n (p + 1) (T p) : Nat) : Int) := by
    unfold mClause
    rw [hTp, if_neg c1', if_neg (fun q => c2 (hfull.mp q)), hT, show A 2 (rsP (up2 A 1 3 ((p + 1 : Nat) : Int)) n (p + 1) (T p)) = T (rsP (up2 A 1 3 ((p + 1 : Nat) : Int)) n (p + 1) (T p)) from congrFun hT _]
  have hin := rsP_in (M0 := up2 A 1 3 ((p + 1 : Nat) : Int)) (n := n) (p := p + 1) (c := T p) (by omega)
  by_cases hb : bdF T n (p + 1) (T p) = 0
  · obtain ⟨s1, s2, s3⟩ := r3 hb
    rw [s2] at eM0 hin
    by_cases hs : bdE T n (p + 1) (T p) < n ∧ T (bdE T n (p + 1) (T p)) = 59
    · rw [if_pos hs] at eM0
      have eF : clF T n p md L E Y = 0 := by unfold clF; rw [if_neg c1, if_neg c2, if_neg (fun q => q hb), if_pos hs]
      rw [eF]
      refine ⟨fun y j h1 h2 h3 => ?_, ?_, fun q => absurd rfl q, fun _ => ⟨?_, ?_, ⟨hin.1, hs.1⟩, hb, hk, ?_, ?_, ?_, ?_, ?_, ?_⟩⟩
      · rw [eM0]
        exact (up2_ne (by omega)).trans (hfr y j h1 h2 h3)
      · rw [eM0]
        exact (up2_ne (by omega)).trans (r1.trans hb)
      · rw [eM0]
        exact (up2_ne (by omega)).trans (s1.trans (up2_ne (by omega)))
      · rw [eM0]
        exact up2_same
      · have := hmd.2
        omega
      · omega
      · have := hL.2
        omega
      · have := hE.2
        omega
      · have := hY.2
        omega
      · rw [eM0]
        exact s3.of (fun x j h1 h2 => (up2_ne (by omega)).symm) (fun x j h1 h2 => up2_ne (by omega)) hY.2 (by have := hY.2; omega)
    · rw [if_neg hs] at eM0
      have eF : clF T n p md L E Y = 1 := by unfold clF; rw [if_neg c1, if_neg c2, if_neg (fun q => q hb), if_neg hs]
      have eP : clP T n p md L E Y = bdE T n (p + 1) (T p) := by unfold clP; rw [if_neg c1, if_neg c2, if_neg (fun q => q hb)]
      unfold mBlame at eM0
      rw [if_pos (r1.trans hb)] at eM0
      rw [eF, eP, eM0]
      exact ⟨fun y j h1 h2 h3 => (up2_ne (by omega)).trans ((up2_ne (by omega)).trans (hfr y j h1 h2 h3)), (up2_ne (by omega)).trans up2_same, fun _ => up2_same, fun q => absurd q (by decide)⟩
  · have eF : clF T n p md L E Y = bdF T n (p + 1) (T p) := by unfold clF; rw [if_neg c1, if_neg c2, if_pos hb]
    have eP : clP T n p md L E Y = bdB T n (p + 1) (T p) := by unfold clP; rw [if_neg c1, if_neg c2, if_pos hb]
    have hne : ¬ mRest (up2 A 1 3 ((p + 1 : Nat) : Int)) v n (p + 1) (T p) L E Y 1 4 = 0 := by rw [r1]; exact hb
    have x : ∀ y j, (y ≠ 1 ∨ j ≠ 3) → mClause A v n p L E Y y j = mRest (up2 A 1 3 ((p + 1 : Nat) : Int)) v n (p + 1) (T p) L E Y y j := fun y j hj => by
      rw [eM0]
      split
      · exact up2_ne (by omega)
      · unfold mBlame
        rw [if_neg hne]
    rw [eF, eP]
    exact ⟨fun y j h1 h2 h3 => (x y j (by omega)).trans (hfr y j h1 h2 h3), (x 1 4 (by omega)).trans r1, fun q => (x 1 5 (by omega)).trans (r2 q), fun q => absurd q hb⟩
end ClauseS
/-- class and reference between two clauses, no fault yet -/
def PR (v n k : Nat) (T : Nat → Int) (A B : inm) (md : Int) (L E Y : Nat) (lt : Nat → Nat) (p q : Nat) : Prop :=
  (A 1 4 = 0 ∧ A 1 5 = -1 ∧ B 279 19 = -1) ∧ (A 1 3 = (p : Int) ∧ B 279 20 = (q : Int) ∧ p ≤ n ∧ q ≤ n ∧ skp T n q = p ∧ k ≤ q) ∧
  (A v 1 = md ∧ B 279 23 = md ∧ ((md = -1 ∧ k = 0) ∨ (0 ≤ md ∧ 1 ≤ k))) ∧ (md = -1 → L = 0 ∧ E = 0 ∧ Y = 0) ∧
  (A v 2 = (L : Int) ∧ B 279 24 = (L : Int) ∧ L ≤ 12) ∧ (∀ j, j < L → (A (v + 1) j = B 291 j ∧ 0 ≤ A (v + 1) j ∧ A (v + 1) j ≤ 4) ∧ A (v + 2) j = B 292 j ∧ 0 ≤ A (v + 2) j ∧ A (v + 2) j ≤ 20) ∧
  (A v 3 = (E : Int) ∧ B 279 27 = (E : Int) ∧ E ≤ 5) ∧ (∀ e, e < E → (A (v + 3) e = B 293 e ∧ 0 ≤ A (v + 3) e ∧ A (v + 3) e ≤ 9) ∧ A (v + 4) e = B 294 e ∧ 1 ≤ A (v + 4) e ∧ A (v + 4) e ≤ 9) ∧
  (A v 4 = (Y : Int) ∧ B 279 30 = (Y : Int) ∧ Y ≤ 6) ∧ ∀ t, t < Y → (A (v + 5) t = (lt t : Int) ∧ B 295 t = (lt t : Int) ∧ lt t ≤ 8) ∧ ∀ i, i < lt t → A (v + 7 + t) i = B 296 (8 * t + i) ∧ 0 ≤ A (v + 7 + t) i ∧ A (v + 7 + t) i ≤ 4
theorem PR.step {v n k : Nat} {T : Nat → Int} {A B : inm} {md : Int} {L E Y : Nat} {lt : Nat → Nat} {p q : Nat} {B2 : inm} (h : PR v n k T A B md L E Y lt p q) (hv : Cs v) (hT : (fun j => A 2 j) = T) (hp : p < n) (hc : clF T n p md L E Y = 0) (hD : DS (up2 (up2 B 279 20 (p : Int)) 279 20 ((p + 1 : Nat) : Int)) B2 T n (p + 1) (T p) L E Y) : ∃ (md' : Int) (L' E' Y' : Nat) (lt' : Nat → Nat) (p' q' : Nat), PR v n (k + 1) T (mClause A v n p L E Y) (up2 B2 279 20 ((bdE T n (p + 1) (T p) + 1 : Nat) : Int)) md' L' E' Y' lt' p' q' := by
  obtain ⟨⟨a1, a2, a3⟩, ⟨b1, b2, b3, b4, b5, b6⟩, ⟨m1, m2, m3⟩, m4, ⟨l1, l2, l3⟩, l4, ⟨e1, e2, e3⟩, e4, ⟨y1, y2, y3⟩, y4⟩ := h
  obtain ⟨-, s1, s2, s3⟩ := clause_spec (n := n) hv hT hp a1 ⟨m1, by omega⟩ ⟨l1, l3⟩ ⟨e1, e3⟩ ⟨y1, y3⟩
  obtain ⟨t1, t2, t3, t4, t5, t6, t7, t8, t9, t10, c0, c1, c2, c3, c4, c5, c6, c7, c8, c9, c10, c11⟩ := s3 hc
  obtain ⟨d0, d1, -, d3, d4, d5, d6, d7, d8, d9, d10, d11, d12, d13⟩ := hD
  have qp : q ≤ p := by rw [← b5]; exact (skp_in b4).1
  have x : ∀ y j, y ≠ 279 ∨ j ≠ 20 → up2 (up2 B 279 20 (p : Int)) 279 20 ((p + 1 : Nat) : Int) y j = B y j := fun y j hj => (up2_ne (by omega)).trans (up2_ne (by omega))
  have z : ∀ y j, y ≠ 279 ∨ j ≠ 20 → up2 B2 279 20 ((bdE T n (p + 1) (T p) + 1 : Nat) : Int) y j = B2 y j := fun y j hj => up2_ne (by omega)
  rw [x _ _ (by omega)] at d1 d3 d4 d5 d6
  have hsk := skp_in (T := T) (n := n) (p := bdE T n (p + 1) (T p) + 1) (by omega)
  have hpos : ∀ i, i ≤ tyL T n (p + 1) → T p = 116 → 0 ≤ nV T n (posI T n (p + 1) i) ∧ nV T n (posI T n (p + 1) i) ≤ 4 := fun i hi h116 => by
    by_cases hl : i = tyL T n (p + 1)
    · have hb := t4
      rw [h116] at hb
      unfold bdF at hb
      rw [if_neg (by decide), if_neg (by decide), if_neg (by decide)] at hb
      rw [hl]
      exact nF_0 hb
    · exact nF_0 (tyL_ok.2 i (by omega)).1
  refine ⟨if T p = 109 then nV T n (p + 1) else md, if T p = 108 then L + 1 else L, if T p = 101 then E + 1 else E, if T p = 116 then Y + 1 else Y, fun t => if T p = 116 ∧ t = Y then tyL T n (p + 1) + 1 else lt t, skp T n (bdE T n (p + 1) (T p) + 1), bdE T n (p + 1) (T p) + 1, ⟨s1.trans hc, t1.trans a2, ?_⟩, ⟨t2, up2_same, hsk.2, by omega, rfl, by omega⟩, ⟨?_, ?_, ?_⟩, ?_, ⟨?_, ?_, ?_⟩, fun j hj => ?_, ⟨?_, ?_, ?_⟩, fun e he => ?_, ⟨?_, ?_, ?_⟩, fun t ht => ⟨⟨?_, ?_, ?_⟩, fun i hi => ?_⟩⟩
  · rw [z _ _ (by omega), d1]
    exact a3
  · rw [c1, m1]
  · rw [z _ _ (by omega), d3, m2]
  · right
    by_cases h109 : T p = 109
    · rw [if_pos h109]
      have hb := t4
      rw [h109] at hb
      unfold bdF at hb
      rw [if_pos rfl] at hb
      exact ⟨(nF_0 hb).1, by omega⟩
    · rw [if_neg h109]
      exact ⟨t7 h109, by omega⟩
  · by_cases h109 : T p = 109
    · rw [if_pos h109, if_neg (by omega), if_neg (by omega), if_neg (by omega)]
      intro _
      exact m4 (t6 h109)
    · rw [if_neg h109]
      intro hm
      have := t7 h109
      omega
  · rw [c2, l1]
    split <;> rfl
  · rw [z _ _ (by omega), d4, l2]
    split <;> rfl
  · by_cases h108 : T p = 108
    · rw [if_pos h108]
      have := t8 h108
      omega
    · rw [if_neg h108]
      exact l3
  · rw [c5 j, c6 j, z _ _ (by omega), z _ _ (by omega), d7 j, d8 j, x _ _ (by omega), x _ _ (by omega)]
    by_cases h108 : T p = 108 ∧ j = L
    · rw [if_pos h108, if_pos h108, if_pos h108, if_pos h108]
      have hb := t4
      rw [h108.1] at hb
      unfold bdF at hb
      rw [if_neg (by decide), if_pos rfl] at hb
      by_cases hf : nF T n (p + 1) 0 4 = 0
      · rw [if_pos hf] at hb
        have g1 := nF_0 hf
        have g2 := nF_0 hb
        exact ⟨⟨rfl, g1⟩, rfl, by omega, g2.2⟩
      · rw [if_neg hf] at hb
        exact absurd hb hf
    · rw [if_neg h108, if_neg h108, if_neg h108, if_neg h108]
      refine l4 j ?_
      by_cases h1 : T p = 108
      · rw [if_pos h1] at hj
        have : j ≠ L := fun q => h108 ⟨h1, q⟩
        omega
      · rw [if_neg h1] at hj
        exact hj
  · rw [c3, e1]
    split <;> rfl
  · rw [z _ _ (by omega), d5, e2]
    split <;> rfl
  · by_cases h101 : T p = 101
    · rw [if_pos h101]
      have := t9 h101
      omega
    · rw [if_neg h101]
      exact e3
  · rw [c7 e, c8 e, z _ _ (by omega), z _ _ (by omega), d9 e, d10 e, x _ _ (by omega), x _ _ (by omega)]
    by_cases h101 : T p = 101 ∧ e = E
    · rw [if_pos h101, if_pos h101, if_pos h101, if_pos h101]
      have hb := t4
      rw [h101.1] at hb
      unfold bdF at hb
      rw [if_neg (by decide), if_neg (by decide), if_pos rfl] at hb
      by_cases hf : nF T n (p + 1) 0 9 = 0
      · rw [if_pos hf] at hb
        have g1 := nF_0 hf
        have g2 := nF_0 hb
        exact ⟨⟨rfl, g1⟩, rfl, g2⟩
      · rw [if_neg hf] at hb
        exact absurd hb hf
    · rw [if_neg h101, if_neg h101, if_neg h101, if_neg h101]
      refine e4 e ?_
      by_cases h1 : T p = 101
      · rw [if_pos h1] at he
        have : e ≠ E := fun q => h101 ⟨h1, q⟩
        omega
      · rw [if_neg h1] at he
        exact he
  · rw [c4, y1]
    split <;> rfl
  · rw [z _ _ (by omega), d6, y2]
    split <;> rfl
  · by_cases h116 : T p = 116
    · rw [if_pos h116]
      have := t10 h116
      omega
    · rw [if_neg h116]
      exact y3
  · rw [c9 t]
    dsimp only
    by_cases h1 : T p = 116 ∧ t = Y
    · rw [if_pos h1, if_pos h1]
    · rw [if_neg h1, if_neg h1]
      refine (y4 t ?_).1.1
      by_cases h2 : T p = 116
      · rw [if_pos h2] at ht
        have : t ≠ Y := fun q => h1 ⟨h2, q⟩
        omega
      · rw [if_neg h2] at ht
        exact ht
  · rw [z _ _ (by omega), d11 t, x _ _ (by omega)]
    dsimp only
    by_cases h1 : T p = 116 ∧ t = Y
    · rw [if_pos h1, if_pos h1]
    · rw [if_neg h1, if_neg h1]
      refine (y4 t ?_).1.2.1
      by_cases h2 : T p = 116
      · rw [if_pos h2] at ht
        have : t ≠ Y := fun q => h1 ⟨h2, q⟩
        omega
      · rw [if_neg h2] at ht
        exact ht
  · dsimp only
    by_cases h1 : T p = 116 ∧ t = Y
    · rw [if_pos h1]
      have := (tyL_ok (T := T) (n := n) (p := p + 1)).1
      omega
    · rw [if_neg h1]
      refine (y4 t ?_).1.2.2
      by_cases h2 : T p = 116
      · rw [if_pos h2] at ht
        have : t ≠ Y := fun q => h1 ⟨h2, q⟩
        omega
      · rw [if_neg h2] at ht
        exact ht
  · dsimp only at hi
    by_cases h1 : T p = 116 ∧ t = Y
    · rw [if_pos h1] at hi
      obtain ⟨h116, rfl⟩ := h1
      rw [c11 h116 i (by omega), z _ _ (by omega), d13 h116 i (by omega)]
      exact ⟨rfl, hpos i (by omega) h116⟩
    · rw [if_neg h1] at hi
      have htY : t < Y := by
        by_cases h2 : T p = 116
        · rw [if_pos h2] at ht
          have : t ≠ Y := fun q => h1 ⟨h2, q⟩
          omega
        · rw [if_neg h2] at ht
          exact ht
      have hl8 := (y4 t htY).1.2.2
      rw [c10 t i (by omega) (fun h2 q => h1 ⟨h2, q⟩), z _ _ (by omega), d12 (8 * t + i) (fun _ => by omega), x _ _ (by omega)]
      exact (y4 t htY).2 i hi
