/-! ===== reading: the whole, both ===== -/
section ReadOut
variable {B : inm} {L y j : Nat}
theorem rTR_hi (h : y ≠ 280 ∧ y ≠ 281 ∧ y ≠ 282 ∧ y ≠ 283 ∧ y ≠ 284) : rTR B L y j = B y j := by
  unfold rTR rT1 rT2 rT3 rT4
  exact (up2_ne (by omega)).trans ((ovo_out (by omega)).trans ((ovo_out (by omega)).trans ((up2_ne (by omega)).trans ((rEmp_out (by omega)).trans ((ov_out (by omega)).trans ((ov_out (by omega)).trans ((ov_out (by omega)).trans (ov_out (by omega)))))))))
theorem rTR_280 (hj : j < 5) : rTR B L 280 j = B 293 j := by
  unfold rTR rT1 rT2 rT3 rT4
  exact (up2_ne (by omega)).trans ((ovo_out (by omega)).trans ((ovo_out (by omega)).trans ((up2_ne (by omega)).trans ((rEmp_out (by omega)).trans ((ov_out (by omega)).trans ((ov_out (by omega)).trans ((ov_out (by omega)).trans (ov_in hj))))))))
theorem rTR_281 (hj : j < 5) : rTR B L 281 j = B 294 j := by
  unfold rTR rT1 rT2 rT3 rT4
  exact (up2_ne (by omega)).trans ((ovo_out (by omega)).trans ((ovo_out (by omega)).trans ((up2_ne (by omega)).trans ((rEmp_out (by omega)).trans ((ov_out (by omega)).trans ((ov_out (by omega)).trans (ov_in hj)))))))
theorem rTR_282 (hj : j < 6) : rTR B L 282 j = B 295 j := by
  unfold rTR rT1 rT2 rT3 rT4
  exact (up2_ne (by omega)).trans ((ovo_out (by omega)).trans ((ovo_out (by omega)).trans ((up2_ne (by omega)).trans ((rEmp_out (by omega)).trans ((ov_out (by omega)).trans ((ov_in hj).trans ((ov_out (by omega)).trans (ov_out (by omega)))))))))
theorem rTR_283 (hj : j < 48) : rTR B L 283 j = B 296 j := by
  unfold rTR rT1 rT2 rT3 rT4
  exact (up2_ne (by omega)).trans ((ovo_out (by omega)).trans ((ovo_out (by omega)).trans ((up2_ne (by omega)).trans ((rEmp_out (by omega)).trans ((ov_in hj).trans ((ov_out (by omega)).trans ((ov_out (by omega)).trans (ov_out (by omega)))))))))
theorem rTR_0 : rTR B L 284 0 = (L : Int) := by
  unfold rTR rT1 rT2 rT3 rT4
  exact (up2_ne (by omega)).trans ((ovo_out (by omega)).trans ((ovo_out (by omega)).trans (up2_same)))
theorem rTR_k (hj : j < L) (hL : L ≤ 12) : rTR B L 284 (j + 1) = B 291 j := by
  unfold rTR rT1 rT2 rT3 rT4
  refine (up2_ne (by omega)).trans ((ovo_out (by omega)).trans ((ovo_in (by omega) (by omega)).trans ((up2_ne (by omega)).trans ((rEmp_out (by omega)).trans ((ov_out (by omega)).trans ((ov_out (by omega)).trans ((ov_out (by omega)).trans ((ov_out (by omega)).trans (?_)))))))))
  exact congrArg (B 291) (by omega)
theorem rTR_t (hj : j < L) (hL : L ≤ 12) : rTR B L 284 (j + 13) = B 292 j := by
  unfold rTR rT1 rT2 rT3 rT4
  refine (up2_ne (by omega)).trans ((ovo_in (by omega) (by omega)).trans ((up2_ne (by omega)).trans ((rEmp_out (by omega)).trans ((ov_out (by omega)).trans ((ov_out (by omega)).trans ((ov_out (by omega)).trans ((ov_out (by omega)).trans (?_))))))))
  exact congrArg (B 292) (by omega)
theorem rTR_27 : rTR B L 284 27 = if L = 0 then B 279 1 else 0 := by
  unfold rTR rT1 rT2 rT3 rT4
  rw [up2_same]
  by_cases h : L = 0
  · rw [if_pos h, if_pos h]
    exact (up2_ne (by omega)).trans ((rEmp_out (by omega)).trans ((ov_out (by omega)).trans ((ov_out (by omega)).trans ((ov_out (by omega)).trans (ov_out (by omega))))))
  · rw [if_neg h, if_neg h]
theorem rTR_28 (hL : L ≤ 12) : rTR B L 284 28 = -1 := by
  unfold rTR rT1 rT2 rT3 rT4 rEmp
  exact (up2_ne (by omega)).trans ((ovo_out (by omega)).trans ((ovo_out (by omega)).trans ((up2_ne (by omega)).trans (up2_same))))
theorem rTR_z (hL : L ≤ 12) (hj : 25 ≤ j ∧ j < 125 ∧ j ≠ 27 ∧ j ≠ 28) : rTR B L 284 j = 0 := by
  unfold rTR rT1 rT2 rT3 rT4 rEmp
  exact (up2_ne (by omega)).trans ((ovo_out (by omega)).trans ((ovo_out (by omega)).trans ((up2_ne (by omega)).trans ((up2_ne (by omega)).trans (ov_in (by omega))))))
end ReadOut
/-- a clause of the class, out of its memory alone -/
def cCl (v n : Nat) (A : inm) : inm := mClause A v n (A 1 3).toNat (A v 2).toNat (A v 3).toNat (A v 4).toNat
/-- what reading leaves alone -/
def FrC (v : Nat) (M A : inm) : Prop := ∀ y j, (y ≠ 1 ∨ (j ≠ 3 ∧ j ≠ 4 ∧ j ≠ 5)) → y ≠ 3 → (y < v ∨ v + 12 < y) → A y j = M y j
def CIn (v n k : Nat) (A : inm) : Prop := ∃ (p : Nat) (md : Int) (L E Y : Nat), (A 1 3 = (p : Int) ∧ p ≤ n ∧ k ≤ p) ∧ (A v 1 = md ∧ (md = -1 ∨ 0 ≤ md)) ∧ (A v 2 = (L : Int) ∧ L ≤ 12) ∧ (A v 3 = (E : Int) ∧ E ≤ 5) ∧ (A v 4 = (Y : Int) ∧ Y ≤ 6)
theorem cCl_is {v n p L E Y : Nat} {A : inm} (hp : A 1 3 = (p : Int)) (hL : A v 2 = (L : Int)) (hE : A v 3 = (E : Int)) (hY : A v 4 = (Y : Int)) : cCl v n A = mClause A v n p L E Y := by
  unfold cCl
  rw [hp, hL, hE, hY]
  rfl
theorem Cs.four {v : Nat} (h : Cs v) : 4 ≤ v ∧ v + 12 < 30 := by rcases h with q | q <;> omega
/-- the class's reading: a step -/
theorem cl_step {v n k : Nat} {T : Nat → Int} {A : inm} (hv : Cs v) (hT : (fun j => A 2 j) = T) (h0 : A 1 4 = 0) (hc : CIn v n k A) (hlt : A 1 3 < (n : Int)) : (∃ p L E Y : Nat, (A 1 3 = (p : Int) ∧ p ≤ n ∧ A v 2 = (L : Int) ∧ A v 3 = (E : Int) ∧ A v 4 = (Y : Int)) ∧ cCl v n A = mClause A v n p L E Y) ∧ FrC v A (cCl v n A) ∧ (0 ≤ cCl v n A 1 4 ∧ cCl v n A 1 4 ≤ 3) ∧ (cCl v n A 1 4 = 0 → CIn v n (k + 1) (cCl v n A)) := by
  obtain ⟨p, md, L, E, Y, ⟨p1, p2, p3⟩, hmd, hL, hE, hY⟩ := hc
  have e := cCl_is (n := n) p1 hL.1 hE.1 hY.1
  obtain ⟨s0, s1, s2, s3⟩ := clause_spec (n := n) (p := p) hv hT (by omega) h0 hmd hL hE hY
  rw [← e] at s0 s1 s2 s3
  refine ⟨⟨p, L, E, Y, ⟨p1, p2, hL.1, hE.1, hY.1⟩, e⟩, s0, by rw [s1]; exact clF_in, fun q => ?_⟩
  rw [s1] at q
  obtain ⟨t1, t2, t3, t4, t5, t6, t7, t8, t9, t10, c0, c1, c2, c3, c4, -⟩ := s3 q
  have hsk := skp_in (T := T) (n := n) (p := bdE T n (p + 1) (T p) + 1) (by omega)
  refine ⟨skp T n (bdE T n (p + 1) (T p) + 1), if T p = 109 then nV T n (p + 1) else md, if T p = 108 then L + 1 else L, if T p = 101 then E + 1 else E, if T p = 116 then Y + 1 else Y, ⟨t2, hsk.2, by omega⟩, ⟨by rw [c1, hmd.1], ?_⟩, ⟨?_, ?_⟩, ⟨?_, ?_⟩, ⟨?_, ?_⟩⟩
  · by_cases h109 : T p = 109
    · rw [if_pos h109]
      have hb := t4
      rw [h109] at hb
      unfold bdF at hb
      rw [if_pos rfl] at hb
      exact Or.inr (nF_0 hb).1
    · rw [if_neg h109]
      exact hmd.2
  · rw [c2, hL.1]
    split <;> rfl
  · have := hL.2
    split
    · rename_i q1
      have := t8 q1
      omega
    · omega
  · rw [c3, hE.1]
    split <;> rfl
  · have := hE.2
    split
    · rename_i q1
      have := t9 q1
      omega
    · omega
  · rw [c4, hY.1]
    split <;> rfl
  · have := hY.2
    split
    · rename_i q1
      have := t10 q1
      omega
    · omega

/-- the reference's reading, beside the class's steps C 0 .. C K0 -/
theorem pb_ref {v m K0 w1 : Nat} {T : Nat → Int} {C : Nat → inm} {M1 : inm} {Q2 : Int → Nat → rfm → inm → Prop} (hv : Cs v) (h240 : m ≤ 240) (ht : ∀ j, 0 ≤ T j ∧ T j ≤ 255) (hC : ∀ k, C (k + 1) = cCl v m (C k)) (hCT : ∀ k, k ≤ K0 → (fun j => C k 2 j) = T) (hn : M1 279 18 = (m : Int)) (hT1 : (fun j => M1 290 j) = T) (hgo : ∀ j, j < K0 → C j 1 4 = 0 ∧ C j 1 3 < (m : Int)) (hend : ¬ (C K0 1 4 = 0 ∧ C K0 1 3 < (m : Int))) (h0 : PR v m 0 T (C 0) (rPb0 M1) (-1) 0 0 0 (fun _ => 0) (skp T m 0) 0)
    (gF : ∀ M2 : inm, Fr M1 M2 → ¬ C K0 1 4 = 0 → M2 279 19 = C K0 1 5 → Q2 (-10 - C K0 1 4) 303 (PP w1) (up2 M2 279 18 0))
    (gS : ∀ (B : inm) (md : Int) (L E Y : Nat) (lt : Nat → Nat) (p q : Nat), Fr M1 B → PR v m K0 T (C K0) B md L E Y lt p q → p = m → Q2 (rPr (rTR (rT0 (up2 (up2 B 279 20 (p : Int)) 279 18 0) md E Y) L) 284 0) 303 (PP w1) (rPr (rTR (rT0 (up2 (up2 B 279 20 (p : Int)) 279 18 0) md E Y) L))) :
    OkI yX10_probate cX10_probate 2 5 0 0 (some .int) [vR 279] 303 (PP w1) M1 Q2 := by
  refine ok_X10_probate (T := T) h240 (fun j _ => ht j) (fun k B => k ≤ K0 ∧ Fr M1 B ∧ ∃ (md : Int) (L E Y : Nat) (lt : Nat → Nat) (p q : Nat), PR v m k T (C k) B md L E Y lt p q) (fun k B hJ => ?_) (fun k B q0 hJ hq0 hq0n hsk => ?_) (fun k B q0 hJ hq0 hsk => ?_) ⟨Nat.zero_le _, fun y j h1 h2 => ?_, -1, 0, 0, 0, fun _ => 0, skp T m 0, 0, h0⟩
  · obtain ⟨-, hfr, md, L, E, Y, lt, p, q, hP⟩ := hJ
    refine ⟨(hfr _ _ (by omega) (by omega)).trans hn, ?_, q, hP.2.1.2.1, hP.2.1.2.2.2.1, hP.2.1.2.2.2.2.2⟩
    rw [← hT1]
    funext j
    exact hfr _ _ (by omega) (by omega)
  · obtain ⟨hkK, hfr, md, L, E, Y, lt, p, q, hP⟩ := hJ
    have hq : q0 = q := by have := hP.2.1.2.1; omega
    subst hq
    have hps : skp T m q0 = p := hP.2.1.2.2.2.2.1
    rw [hps] at hsk ⊢
    have hA4 := hP.1.1
    have hA3 := hP.2.1.1
    have hkK1 : k < K0 := by
      rcases Nat.lt_or_ge k K0 with g | g
      · exact g
      · have e : k = K0 := by omega
        subst e
        exact absurd ⟨hA4, by omega⟩ hend
    obtain ⟨m1, m2, m3⟩ := hP.2.2.1
    obtain ⟨l1, l2, l3⟩ := hP.2.2.2.2.1
    obtain ⟨e1, e2, e3⟩ := hP.2.2.2.2.2.2.1
    obtain ⟨y1, y2, y3⟩ := hP.2.2.2.2.2.2.2.2.1
    have hCk := hCT k hkK
    have eC : C (k + 1) = mClause (C k) v m p L E Y := (hC k).trans (cCl_is hA3 l1 e1 y1)
    obtain ⟨s0, s1, s2, s3⟩ := clause_spec (n := m) (p := p) hv hCk hsk hA4 ⟨m1, by omega⟩ ⟨l1, l3⟩ ⟨e1, e3⟩ ⟨y1, y3⟩
    rw [← eC] at s1 s2
    refine ⟨md, L, E, Y, m2, ⟨l2, l3⟩, ⟨e2, e3⟩, ⟨y2, y3⟩, fun hf => ?_, fun hf M2 hD => ?_⟩
    · have hK : K0 = k + 1 := by
        rcases Nat.lt_or_ge (k + 1) K0 with g | g
        · exact absurd (s1.symm.trans (hgo (k + 1) g).1) hf
        · omega
      have hin := clF_in (T := T) (n := m) (p := p) (md := md) (L := L) (E := E) (Y := Y)
      refine ⟨by omega, hin.2, fun M2 hF h19 => ?_⟩
      rw [← s1, ← hK]
      refine gF M2 ?_ (by rw [hK, s1]; exact hf) (by rw [h19, hK]; exact (s2 hf).symm)
      exact Fr.trans hfr (Fr.trans (Fr.up (Fr.rf B) (by omega)) hF)
    · refine ⟨by omega, ?_, ?_⟩
      · exact Fr.up (Fr.trans hfr (Fr.trans (Fr.up (Fr.up (Fr.rf B) (by omega)) (by omega)) hD.1)) (by omega)
      · rw [eC]
        exact hP.step hv hCk hsk hf hD
  · obtain ⟨hkK, hfr, md, L, E, Y, lt, p, q, hP⟩ := hJ
    have hq : q0 = q := by have := hP.2.1.2.1; omega
    subst hq
    have hps : skp T m q0 = p := hP.2.1.2.2.2.2.1
    rw [hps] at hsk ⊢
    have hpm : p = m := by have := hP.2.1.2.2.1; omega
    have hkK1 : k = K0 := by
      rcases Nat.lt_or_ge k K0 with g | g
      · have := (hgo k g).2
        have := hP.2.1.1
        omega
      · omega
    subst hkK1
    exact ⟨md, L, E, Y, hP.2.2.1.2.1, hP.2.2.2.2.1.2, hP.2.2.2.2.2.2.1.2.1, hP.2.2.2.2.2.2.2.2.1.2.1, gS B md L E Y lt p q0 hfr hP hpm⟩
  · unfold rPb0
    exact (up2_ne (by omega)).trans ((up2_ne (by omega)).trans ((up2_ne (by omega)).trans ((up2_ne (by omega)).trans ((up2_ne (by omega)).trans (up2_ne (by omega))))))

/-- a text with a fault: all but the text stays -/
theorem RelP.faulty {M F : inm} {w U E T : Nat} {lt : Nat → Nat} {L n x c : Nat} (h : RelP M M w U E T lt L n x c) (hA : ∀ y j, y < 279 → y ≠ 1 → y ≠ 3 → (y < 21 - w ∨ 21 - w + 12 < y) → F y j = M y j) (hB : ∀ y j, 279 ≤ y → (y ≠ 279 ∨ j < 18 ∨ 32 < j) → (y < 291 ∨ 296 < y) → F y j = M y j) (h1 : F 1 2 = 0) (h2 : F 279 18 = 0) (h3 : F 1 5 = F 279 19) : RelP F F w U E T lt L n x c := by
  have hw := kdw h.cs
  have hwv : (w = 4 ∧ 21 - w = 17) ∨ (w = 17 ∧ 21 - w = 4) := by rcases h.cs with q | q <;> omega
  have hw4 : 4 ≤ w := by omega
  have hA : ∀ x j, x < 279 ∧ x ≠ 1 ∧ x ≠ 3 ∧ (x < 21 - w ∨ 21 - w + 12 < x) → F x j = M x j := fun x j q => hA x j q.1 q.2.1 q.2.2.1 q.2.2.2
  have hB : ∀ x j, 279 ≤ x ∧ (x ≠ 279 ∨ j < 18 ∨ 32 < j) ∧ (x < 291 ∨ 296 < x) → F x j = M x j := fun x j q => hB x j q.1 q.2.1 q.2.2
  have e : F w 1 = M w 1 := hA _ _ (by omega)
  unfold RelP
  rw [e]
  refine ⟨h.cs, h.u, ?_, h.ca.of (fun x j _ _ => hA x j (by omega)) (fun x j _ => hB x j (by omega)), h.on.of (fun i j q => hA _ _ (by unfold Cnt at q; omega)) (fun k _ => hB _ _ (by omega)), h.bd.of (fun x j _ _ => hA x j (by omega)), h.de.of (fun x j _ _ => hA x j (by omega)) (fun x j _ => hB x j (by omega)), h.im.of (fun x j _ _ => hA x j (by omega)) (fun x j _ => hB x j (by omega)), h.gu.of (fun x j _ _ => hA x j (by omega)) (fun x j _ => hB x j (by omega)), h.bo.of (fun x j _ _ => hA x j (by omega)) (fun x j _ => hB x j (by omega)), h.dr.of (fun x j _ => hA x j (by omega)) (fun x j _ => hB x j (by omega))⟩
  obtain ⟨⟨m, r1, r2, r3, r4⟩, r5⟩ := h.rd
  refine ⟨⟨0, h1, h2, by omega, fun j => ?_⟩, h3⟩
  rw [hA 2 j (by omega), hB 290 j (by omega)]
  exact r4 j

theorem crown {k L1 : Nat} {md : Int} (m3 : (md = -1 ∧ k = 0) ∨ (0 ≤ md ∧ 1 ≤ k)) (d : Int) (hd : d = if k = 0 then 0 else 1) : (if L1 = 0 then (if md < 0 then (0 : Int) else md) else 0) = if (if ¬ d = 0 ∧ (L1 : Int) = 0 then (1 : Int) else 0) = 0 then 0 else md := by
  rcases m3 with g | g
  · rw [if_pos g.2] at hd
    subst hd
    have e1 : (if ¬ (0 : Int) = 0 ∧ (L1 : Int) = 0 then (1 : Int) else 0) = 0 := if_neg (fun q => q.1 rfl)
    rw [if_pos e1]
    split
    · exact if_pos (by omega)
    · rfl
  · rw [if_neg (by omega)] at hd
    subst hd
    by_cases hl : L1 = 0
    · have e1 : (if ¬ (1 : Int) = 0 ∧ (L1 : Int) = 0 then (1 : Int) else 0) = 1 := if_pos ⟨by decide, by omega⟩
      rw [if_pos hl, if_neg (show ¬ md < 0 by omega), if_neg (by rw [e1]; decide)]
    · have e1 : (if ¬ (1 : Int) = 0 ∧ (L1 : Int) = 0 then (1 : Int) else 0) = 0 := if_neg (fun q => hl (by omega))
      rw [if_neg hl, if_pos e1]
/-- a text without a fault: all begins anew -/
theorem rel_new {M D B : inm} {w U E T : Nat} {lt : Nat → Nat} {L n x c v m k : Nat} {md : Int} {L1 E1 Y1 : Nat} {lt1 : Nat → Nat} {p q : Nat} (h : RelP M M w U E T lt L n x c) (hv : v = 21 - w) (hD : FrC v M D) (hD0 : D v 0 = if k = 0 then 0 else 1) (hfr : Fr (mProb (up2 D 1 2 0) w) B) (hP : PR v m k (fun j => M 2 j) D B md L1 E1 Y1 lt1 p q) : Rel (rPr (rTR (rT0 (up2 (up2 B 279 20 (p : Int)) 279 18 0) md E1 Y1) L1)) (rPr (rTR (rT0 (up2 (up2 B 279 20 (p : Int)) 279 18 0) md E1 Y1) L1)) v U ∧ rPr (rTR (rT0 (up2 (up2 B 279 20 (p : Int)) 279 18 0) md E1 Y1) L1) 284 0 = mProb (up2 D 1 2 0) w 30 0 := by
  have hcw := h.cs
  have hcv : Cs v := by rw [hv]; exact hcw.other
  have hv4 := hcv.four
  have hwv : (w = 4 ∧ v = 17) ∨ (w = 17 ∧ v = 4) := by rcases hcw with q | q <;> omega
  obtain ⟨⟨a1, a2, a3⟩, ⟨b1, b2, b3, b4, b5, b6⟩, ⟨m1, m2, m3⟩, m4, ⟨l1, l2, l3⟩, l4, ⟨e1, e2, e3⟩, e4, ⟨y1, y2, y3⟩, y4⟩ := hP
  -- the class's side
  have A0 : ∀ y j, (y ≠ 30 ∧ y < 30 ∨ 36 < y) → (y ≠ 1 ∨ j ≠ 2) → y ≠ 37 → y ≠ 250 → y ≠ 258 → y ≠ 266 → y ≠ 270 → mProb (up2 D 1 2 0) w y j = D y j := fun y j h1 h2 h3 h4 h5 h6 h7 => by
    unfold mProb mForget mBegin
    rw [← hv]
    exact (up2_ne (by omega)).trans ((up2_ne (by omega)).trans ((up2_ne (by omega)).trans ((up2_ne (by omega)).trans ((up2_ne (by omega)).trans ((up2_ne (by omega)).trans ((up2_ne (by omega)).trans ((up2_ne (by omega)).trans ((up2_ne (by omega)).trans ((up2_ne (by omega)).trans ((up2_ne (by omega)).trans ((ov_out (by omega)).trans ((ov_out (by omega)).trans ((ov_out (by omega)).trans ((cp2_ne (by omega)).trans ((cp2_ne (by omega)).trans ((up2_ne (by omega)).trans (up2_ne (by omega))))))))))))))))))
  have A1 : mProb (up2 D 1 2 0) w 1 2 = 0 := by
    unfold mProb mForget mBegin
    rw [← hv]
    exact (up2_ne (by omega)).trans ((up2_ne (by omega)).trans ((up2_ne (by omega)).trans ((up2_ne (by omega)).trans ((up2_ne (by omega)).trans ((up2_ne (by omega)).trans ((up2_ne (by omega)).trans ((up2_ne (by omega)).trans ((up2_ne (by omega)).trans ((up2_ne (by omega)).trans ((up2_ne (by omega)).trans ((ov_out (by omega)).trans ((ov_out (by omega)).trans ((ov_out (by omega)).trans ((cp2_ne (by omega)).trans ((cp2_ne (by omega)).trans ((up2_ne (by omega)).trans (up2_same)))))))))))))))))
  have Av : ∀ j, (up2 D 1 2 0) v j = D v j := fun j => up2_ne (by omega)
  have A300 : mProb (up2 D 1 2 0) w 30 0 = (L1 : Int) := by
    unfold mProb mForget mBegin
    rw [← hv]
    refine (up2_ne (by omega)).trans ((up2_ne (by omega)).trans ((up2_ne (by omega)).trans ((up2_ne (by omega)).trans ((up2_ne (by omega)).trans ((up2_ne (by omega)).trans ((up2_ne (by omega)).trans ((up2_ne (by omega)).trans ((up2_ne (by omega)).trans ((up2_ne (by omega)).trans ((up2_ne (by omega)).trans ((ov_out (by omega)).trans ((ov_out (by omega)).trans ((ov_out (by omega)).trans ((cp2_ne (by omega)).trans ((cp2_ne (by omega)).trans ((up2_same).trans (?_)))))))))))))))))
    rw [Av]
    exact l1
  have A31 : ∀ j, j < 12 → mProb (up2 D 1 2 0) w 31 j = D (v + 1) j := fun j hj => by
    unfold mProb mForget mBegin
    rw [← hv]
    refine (up2_ne (by omega)).trans ((up2_ne (by omega)).trans ((up2_ne (by omega)).trans ((up2_ne (by omega)).trans ((up2_ne (by omega)).trans ((up2_ne (by omega)).trans ((up2_ne (by omega)).trans ((up2_ne (by omega)).trans ((up2_ne (by omega)).trans ((up2_ne (by omega)).trans ((up2_ne (by omega)).trans ((ov_out (by omega)).trans ((ov_out (by omega)).trans ((ov_out (by omega)).trans ((cp2_ne (by omega)).trans ((cp2_in (by omega) (by omega)).trans ((up2_ne (by omega)).trans ((up2_ne (by omega)).trans (?_))))))))))))))))))
    exact congrArg (D (v + 1)) (by omega)
  have A32 : ∀ j, j < 12 → mProb (up2 D 1 2 0) w 32 j = D (v + 2) j := fun j hj => by
    unfold mProb mForget mBegin
    rw [← hv]
    refine (up2_ne (by omega)).trans ((up2_ne (by omega)).trans ((up2_ne (by omega)).trans ((up2_ne (by omega)).trans ((up2_ne (by omega)).trans ((up2_ne (by omega)).trans ((up2_ne (by omega)).trans ((up2_ne (by omega)).trans ((up2_ne (by omega)).trans ((up2_ne (by omega)).trans ((up2_ne (by omega)).trans ((ov_out (by omega)).trans ((ov_out (by omega)).trans ((ov_out (by omega)).trans ((cp2_in (by omega) (by omega)).trans ((cp2_ne (by omega)).trans ((up2_ne (by omega)).trans ((up2_ne (by omega)).trans (?_))))))))))))))))))
    exact congrArg (D (v + 2)) (by omega)
  have A33 : ∀ j, j < 5 → mProb (up2 D 1 2 0) w 33 j = 0 ∧ mProb (up2 D 1 2 0) w 34 j = 0 ∧ mProb (up2 D 1 2 0) w 35 j = 0 := fun j hj => by
    unfold mProb mForget mBegin
    rw [← hv]
    exact ⟨(up2_ne (by omega)).trans ((up2_ne (by omega)).trans ((up2_ne (by omega)).trans ((up2_ne (by omega)).trans ((up2_ne (by omega)).trans ((up2_ne (by omega)).trans ((up2_ne (by omega)).trans ((up2_ne (by omega)).trans ((up2_ne (by omega)).trans ((up2_ne (by omega)).trans ((up2_ne (by omega)).trans ((ov_out (by omega)).trans ((ov_out (by omega)).trans (ov_in hj))))))))))))), (up2_ne (by omega)).trans ((up2_ne (by omega)).trans ((up2_ne (by omega)).trans ((up2_ne (by omega)).trans ((up2_ne (by omega)).trans ((up2_ne (by omega)).trans ((up2_ne (by omega)).trans ((up2_ne (by omega)).trans ((up2_ne (by omega)).trans ((up2_ne (by omega)).trans ((up2_ne (by omega)).trans ((ov_out (by omega)).trans (ov_in hj)))))))))))), (up2_ne (by omega)).trans ((up2_ne (by omega)).trans ((up2_ne (by omega)).trans ((up2_ne (by omega)).trans ((up2_ne (by omega)).trans ((up2_ne (by omega)).trans ((up2_ne (by omega)).trans ((up2_ne (by omega)).trans ((up2_ne (by omega)).trans ((up2_ne (by omega)).trans ((up2_ne (by omega)).trans (ov_in hj)))))))))))⟩
  have A30 : mProb (up2 D 1 2 0) w 30 7 = 0 ∧ mProb (up2 D 1 2 0) w 30 8 = 0 ∧ mProb (up2 D 1 2 0) w 30 9 = 0 ∧ mProb (up2 D 1 2 0) w 30 10 = (if ¬ D v 0 = 0 ∧ D v 2 = 0 then 1 else 0) ∧ mProb (up2 D 1 2 0) w 30 11 = -1 := by
    unfold mProb mForget mBegin
    rw [← hv]
    refine ⟨(up2_ne (by omega)).trans ((up2_ne (by omega)).trans ((up2_ne (by omega)).trans ((up2_ne (by omega)).trans ((up2_ne (by omega)).trans ((up2_ne (by omega)).trans ((up2_ne (by omega)).trans ((up2_ne (by omega)).trans ((up2_ne (by omega)).trans ((up2_ne (by omega)).trans (up2_same)))))))))), (up2_ne (by omega)).trans ((up2_ne (by omega)).trans ((up2_ne (by omega)).trans ((up2_ne (by omega)).trans ((up2_ne (by omega)).trans ((up2_ne (by omega)).trans ((up2_ne (by omega)).trans ((up2_ne (by omega)).trans ((up2_ne (by omega)).trans (up2_same))))))))), (up2_ne (by omega)).trans ((up2_ne (by omega)).trans ((up2_ne (by omega)).trans ((up2_ne (by omega)).trans ((up2_ne (by omega)).trans ((up2_ne (by omega)).trans ((up2_ne (by omega)).trans ((up2_ne (by omega)).trans (up2_same)))))))), ?_, (up2_ne (by omega)).trans ((up2_ne (by omega)).trans ((up2_ne (by omega)).trans ((up2_ne (by omega)).trans ((up2_ne (by omega)).trans ((up2_ne (by omega)).trans (up2_same))))))⟩
    refine (up2_ne (by omega)).trans ((up2_ne (by omega)).trans ((up2_ne (by omega)).trans ((up2_ne (by omega)).trans ((up2_ne (by omega)).trans ((up2_ne (by omega)).trans ((up2_ne (by omega)).trans ((up2_same).trans (?_))))))))
    rw [Av, Av]
  have Az : mProb (up2 D 1 2 0) w 37 1 = 0 ∧ mProb (up2 D 1 2 0) w 37 2 = 0 ∧ mProb (up2 D 1 2 0) w 250 0 = 0 ∧ mProb (up2 D 1 2 0) w 258 0 = 0 ∧ mProb (up2 D 1 2 0) w 266 3 = 0 ∧ mProb (up2 D 1 2 0) w 270 2 = 0 := by
    unfold mProb mForget
    exact ⟨(up2_ne (by omega)).trans ((up2_ne (by omega)).trans ((up2_ne (by omega)).trans (up2_same))), (up2_ne (by omega)).trans ((up2_ne (by omega)).trans (up2_same)), (up2_ne (by omega)).trans (up2_same), up2_same, (up2_ne (by omega)).trans ((up2_ne (by omega)).trans ((up2_ne (by omega)).trans ((up2_ne (by omega)).trans ((up2_ne (by omega)).trans (up2_same))))), (up2_ne (by omega)).trans ((up2_ne (by omega)).trans ((up2_ne (by omega)).trans ((up2_ne (by omega)).trans (up2_same))))⟩
  have Aim : ∀ y j, (251 ≤ y ∧ y ≤ 257) ∨ (259 ≤ y ∧ y ≤ 265) ∨ (38 ≤ y ∧ y ≤ 249) ∨ y = 278 → mProb (up2 D 1 2 0) w y j = M y j := fun y j hy => (A0 y j (by omega) (by omega) (by omega) (by omega) (by omega) (by omega) (by omega)).trans (hD y j (by omega) (by omega) (by omega))
  -- the reference's side
  have R0 : ∀ y j, (y ≠ 279 ∨ (j ≠ 13 ∧ j ≠ 10 ∧ j ≠ 33)) → y ≠ 302 → rPr (rTR (rT0 (up2 (up2 B 279 20 (p : Int)) 279 18 0) md E1 Y1) L1) y j = rTR (rT0 (up2 (up2 B 279 20 (p : Int)) 279 18 0) md E1 Y1) L1 y j := fun y j h1 h2 => by
    unfold rPr
    exact (up2_ne (by omega)).trans ((up2_ne (by omega)).trans ((up2_ne (by omega)).trans ((up2_ne (by omega)).trans (up2_ne (by omega)))))
  have T0 : ∀ y j, (y ≠ 279 ∨ (j ≠ 0 ∧ j ≠ 1 ∧ j ≠ 2 ∧ j ≠ 5 ∧ j ≠ 18 ∧ j ≠ 20)) → rT0 (up2 (up2 B 279 20 (p : Int)) 279 18 0) md E1 Y1 y j = B y j := fun y j h1 => by
    unfold rT0
    exact (up2_ne (by omega)).trans ((up2_ne (by omega)).trans ((up2_ne (by omega)).trans ((up2_ne (by omega)).trans ((up2_ne (by omega)).trans (up2_ne (by omega))))))
  have F0 : ∀ y j, y < 279 → rPr (rTR (rT0 (up2 (up2 B 279 20 (p : Int)) 279 18 0) md E1 Y1) L1) y j = mProb (up2 D 1 2 0) w y j := fun y j hy => (R0 y j (by omega) (by omega)).trans ((rTR_hi (by omega)).trans ((T0 y j (by omega)).trans (hfr y j (by omega) (by omega))))
  have F1 : ∀ y j, (y = 279 ∧ (j = 9 ∨ j = 19)) ∨ y = 290 → rPr (rTR (rT0 (up2 (up2 B 279 20 (p : Int)) 279 18 0) md E1 Y1) L1) y j = B y j := fun y j hy => (R0 y j (by omega) (by omega)).trans ((rTR_hi (by omega)).trans (T0 y j (by omega)))
  have G0 : rPr (rTR (rT0 (up2 (up2 B 279 20 (p : Int)) 279 18 0) md E1 Y1) L1) 279 0 = (if md < 0 then 0 else 1) := (R0 _ _ (by omega) (by omega)).trans ((rTR_hi (by omega)).trans (by unfold rT0; exact (up2_ne (by omega)).trans ((up2_ne (by omega)).trans ((up2_ne (by omega)).trans up2_same))))
  have T1 : rT0 (up2 (up2 B 279 20 (p : Int)) 279 18 0) md E1 Y1 279 1 = (if md < 0 then 0 else md) := by unfold rT0; exact (up2_ne (by omega)).trans ((up2_ne (by omega)).trans up2_same)
  have G1 : rPr (rTR (rT0 (up2 (up2 B 279 20 (p : Int)) 279 18 0) md E1 Y1) L1) 279 1 = (if md < 0 then 0 else md) := (R0 _ _ (by omega) (by omega)).trans ((rTR_hi (by omega)).trans T1)
  have G2 : rPr (rTR (rT0 (up2 (up2 B 279 20 (p : Int)) 279 18 0) md E1 Y1) L1) 279 2 = (E1 : Int) := (R0 _ _ (by omega) (by omega)).trans ((rTR_hi (by omega)).trans (by unfold rT0; exact (up2_ne (by omega)).trans up2_same))
  have G5 : rPr (rTR (rT0 (up2 (up2 B 279 20 (p : Int)) 279 18 0) md E1 Y1) L1) 279 5 = (Y1 : Int) := (R0 _ _ (by omega) (by omega)).trans ((rTR_hi (by omega)).trans (by unfold rT0; exact up2_same))
  have G18 : rPr (rTR (rT0 (up2 (up2 B 279 20 (p : Int)) 279 18 0) md E1 Y1) L1) 279 18 = 0 := (R0 _ _ (by omega) (by omega)).trans ((rTR_hi (by omega)).trans (by unfold rT0; exact (up2_ne (by omega)).trans ((up2_ne (by omega)).trans ((up2_ne (by omega)).trans ((up2_ne (by omega)).trans up2_same)))))
  have Gz : rPr (rTR (rT0 (up2 (up2 B 279 20 (p : Int)) 279 18 0) md E1 Y1) L1) 279 13 = 0 ∧ rPr (rTR (rT0 (up2 (up2 B 279 20 (p : Int)) 279 18 0) md E1 Y1) L1) 279 10 = 0 ∧ rPr (rTR (rT0 (up2 (up2 B 279 20 (p : Int)) 279 18 0) md E1 Y1) L1) 279 33 = 0 ∧ rPr (rTR (rT0 (up2 (up2 B 279 20 (p : Int)) 279 18 0) md E1 Y1) L1) 302 0 = 0 ∧ rPr (rTR (rT0 (up2 (up2 B 279 20 (p : Int)) 279 18 0) md E1 Y1) L1) 302 1 = 0 := by
    unfold rPr
    exact ⟨(up2_ne (by omega)).trans ((up2_ne (by omega)).trans ((up2_ne (by omega)).trans ((up2_ne (by omega)).trans up2_same))), (up2_ne (by omega)).trans ((up2_ne (by omega)).trans ((up2_ne (by omega)).trans up2_same)), (up2_ne (by omega)).trans ((up2_ne (by omega)).trans up2_same), (up2_ne (by omega)).trans up2_same, up2_same⟩
  have S0 : ∀ j, rPr (rTR (rT0 (up2 (up2 B 279 20 (p : Int)) 279 18 0) md E1 Y1) L1) 284 j = rTR (rT0 (up2 (up2 B 279 20 (p : Int)) 279 18 0) md E1 Y1) L1 284 j := fun j => R0 _ _ (by omega) (by omega)
  have S27 : rPr (rTR (rT0 (up2 (up2 B 279 20 (p : Int)) 279 18 0) md E1 Y1) L1) 284 27 = if L1 = 0 then (if md < 0 then 0 else md) else 0 := by
    rw [S0, rTR_27, T1]
  have Sz : ∀ j, 25 ≤ j ∧ j < 125 ∧ j ≠ 27 ∧ j ≠ 28 → rPr (rTR (rT0 (up2 (up2 B 279 20 (p : Int)) 279 18 0) md E1 Y1) L1) 284 j = 0 := fun j hj => (S0 j).trans (rTR_z l3 hj)
  have S28 : rPr (rTR (rT0 (up2 (up2 B 279 20 (p : Int)) 279 18 0) md E1 Y1) L1) 284 28 = -1 := (S0 28).trans (rTR_28 l3)
  have Q280 : ∀ e, e < 5 → rPr (rTR (rT0 (up2 (up2 B 279 20 (p : Int)) 279 18 0) md E1 Y1) L1) 280 e = B 293 e := fun e he => (R0 _ _ (by omega) (by omega)).trans ((rTR_280 he).trans (T0 _ _ (by omega)))
  have Q281 : ∀ e, e < 5 → rPr (rTR (rT0 (up2 (up2 B 279 20 (p : Int)) 279 18 0) md E1 Y1) L1) 281 e = B 294 e := fun e he => (R0 _ _ (by omega) (by omega)).trans ((rTR_281 he).trans (T0 _ _ (by omega)))
  have Q282 : ∀ e, e < 6 → rPr (rTR (rT0 (up2 (up2 B 279 20 (p : Int)) 279 18 0) md E1 Y1) L1) 282 e = B 295 e := fun e he => (R0 _ _ (by omega) (by omega)).trans ((rTR_282 he).trans (T0 _ _ (by omega)))
  have Q283 : ∀ e, e < 48 → rPr (rTR (rT0 (up2 (up2 B 279 20 (p : Int)) 279 18 0) md E1 Y1) L1) 283 e = B 296 e := fun e he => (R0 _ _ (by omega) (by omega)).trans ((rTR_283 he).trans (T0 _ _ (by omega)))
  have S00 : rPr (rTR (rT0 (up2 (up2 B 279 20 (p : Int)) 279 18 0) md E1 Y1) L1) 284 0 = (L1 : Int) := (S0 0).trans rTR_0
  have Sk : ∀ j, j < L1 → rPr (rTR (rT0 (up2 (up2 B 279 20 (p : Int)) 279 18 0) md E1 Y1) L1) 284 (j + 1) = B 291 j := fun j hj => (S0 _).trans ((rTR_k hj l3).trans (T0 _ _ (by omega)))
  have St : ∀ j, j < L1 → rPr (rTR (rT0 (up2 (up2 B 279 20 (p : Int)) 279 18 0) md E1 Y1) L1) 284 (j + 13) = B 292 j := fun j hj => (S0 _).trans ((rTR_t hj l3).trans (T0 _ _ (by omega)))
  have DA : ∀ y j, y < 30 → y ≠ 1 → mProb (up2 D 1 2 0) w y j = D y j := fun y j h1 h2 => A0 y j (by omega) (by omega) (by omega) (by omega) (by omega) (by omega) (by omega)
  have B290 : ∀ j, B 290 j = M 290 j := fun j => (hfr 290 j (by omega) (by omega)).trans ((A0 290 j (by omega) (by omega) (by omega) (by omega) (by omega) (by omega) (by omega)).trans (hD 290 j (by omega) (by omega) (by omega)))
  have B279 : B 279 9 = M 279 9 := (hfr 279 9 (by omega) (by omega)).trans ((A0 279 9 (by omega) (by omega) (by omega) (by omega) (by omega) (by omega) (by omega)).trans (hD 279 9 (by omega) (by omega) (by omega)))
  have D2 : ∀ j, D 2 j = M 2 j := fun j => hD 2 j (by omega) (by omega) (by omega)
  obtain ⟨⟨mm, r1, r2, r3, r4⟩, r5⟩ := h.rd
  have hUU := h.u
  generalize hFF : rPr (rTR (rT0 (up2 (up2 B 279 20 (p : Int)) 279 18 0) md E1 Y1) L1) = F at *
  generalize hAA : mProb (up2 D 1 2 0) w = A at *
  have Fv : ∀ j, F v j = D v j := fun j => (F0 v j (by omega)).trans (DA v j (by omega) (by omega))
  have Fvi : ∀ i j, 1 ≤ i → i ≤ 12 → F (v + i) j = D (v + i) j := fun i j h1 h2 => (F0 _ j (by omega)).trans (DA _ j (by omega) (by omega))
  refine ⟨⟨E1, Y1, lt1, L1, 0, 0, 0, hcv, hUU, ⟨⟨0, ?_, G18, by omega, fun j => ?_⟩, ?_⟩, ⟨⟨?_, ?_, ?_, ?_⟩, ⟨?_, G2, e3⟩, fun e he => ?_, ⟨?_, G5, y3⟩, fun t ht => ⟨⟨?_, ?_, ?_⟩, fun i hi => ?_⟩⟩, ⟨⟨?_, S00, l3⟩, fun j hj => ?_, fun e he => ?_, ⟨?_, ?_, ?_, ?_⟩, ?_, ?_, by omega, fun i q hi => absurd hi (by omega)⟩, ⟨?_, fun i hi => ?_, ?_, ?_⟩, ⟨⟨?_, by omega⟩, ⟨?_, ?_, by omega⟩, fun i i1 i2 => absurd i2 (by omega)⟩, fun i hi => ?_, ⟨0, ?_, ?_, by omega, fun _ => 0, fun i hi => absurd hi (by omega)⟩, ⟨0, ?_, ?_, by omega, fun i hi => absurd hi (by omega)⟩, ?_⟩, ?_⟩
  · rw [F0 _ _ (by omega)]; exact A1
  · rw [F0 _ _ (by omega), DA _ _ (by omega) (by omega), F1 290 j (by omega), D2, B290]
    exact r4 j
  · rw [F0 _ _ (by omega), A0 _ _ (by omega) (by omega) (by omega) (by omega) (by omega) (by omega) (by omega), F1 279 19 (by omega), a2, a3]
  · rw [Fv, hD0]
    split <;> omega
  · rw [Fv, G0, hD0]
    rcases m3 with q | q
    · rw [if_pos (by omega), if_pos q.2]
    · rw [if_neg (by omega), if_neg (by omega)]
  · rw [Fv, Fv, hD0, G1, m1]
    intro q
    rcases m3 with g | g
    · rw [if_pos g.2] at q
      exact absurd q (by decide)
    · rw [if_neg (by omega)]
  · rw [Fv, hD0]
    intro q
    rcases m3 with g | g
    · exact (m4 g.1).2.1
    · rw [if_neg (by omega)] at q
      exact absurd q (by decide)
  · rw [Fv]; exact e1
  · rw [Fvi 3 e (by omega) (by omega), Fvi 4 e (by omega) (by omega), Q280 e (by omega), Q281 e (by omega)]
    exact e4 e he
  · rw [Fv]; exact y1
  · rw [Fvi 5 t (by omega) (by omega)]
    exact (y4 t ht).1.1
  · rw [Q282 t (by omega)]
    exact (y4 t ht).1.2.1
  · exact (y4 t ht).1.2.2
  · have := (y4 t ht).1.2.2
    rw [show v + 7 + t = v + (7 + t) by omega, Fvi (7 + t) i (by omega) (by omega), Q283 _ (by omega), show v + (7 + t) = v + 7 + t by omega]
    exact (y4 t ht).2 i hi
  · show F 30 0 = _
    rw [F0 _ _ (by omega)]; exact A300
  · show (F 31 j = F 284 (j + 1) ∧ 0 ≤ F 31 j ∧ F 31 j ≤ 4) ∧ F 32 j = F 284 (j + 13) ∧ 0 ≤ F 32 j ∧ F 32 j ≤ 20
    rw [F0 31 j (by omega), F0 32 j (by omega), A31 j (by omega), A32 j (by omega), Sk j hj, St j hj]
    exact l4 j hj
  · show F 33 e = _ ∧ F 34 e = _ ∧ F 35 e = _
    rw [F0 33 e (by omega), F0 34 e (by omega), F0 35 e (by omega), (A33 e he).1, (A33 e he).2.1, (A33 e he).2.2, Sz _ (by omega), Sz _ (by omega), Sz _ (by omega)]
    exact ⟨rfl, rfl, rfl⟩
  · show F 30 8 = _
    rw [F0 _ _ (by omega), A30.2.1, Sz _ (by omega)]
  · show F 30 9 = _
    rw [F0 _ _ (by omega), A30.2.2.1, Sz _ (by omega)]
  · show F 284 27 = if F 30 10 = 0 then 0 else F v 1
    rw [F0 30 10 (by omega), A30.2.2.2.1, S27, Fv, m1, l1]
    exact crown m3 _ hD0
  · show F 30 11 = _
    rw [F0 _ _ (by omega), A30.2.2.2.2, S28]
  · show F 30 7 = _
    rw [F0 _ _ (by omega), A30.1]
    rfl
  · show F 284 44 = _
    rw [Sz _ (by omega)]
    rfl
  · refine ⟨fun e he => ?_, fun e he => ?_, fun e he => ?_, ?_, ?_, ?_, ?_, ?_, by omega⟩
    · show 0 ≤ F 33 e ∧ F 33 e ≤ 9999
      rw [F0 _ _ (by omega), (A33 e he).1]; omega
    · show 0 ≤ F 34 e ∧ F 34 e ≤ 9999
      rw [F0 _ _ (by omega), (A33 e he).2.1]; omega
    · show 0 ≤ F 35 e ∧ F 35 e ≤ (U : Int)
      rw [F0 _ _ (by omega), (A33 e he).2.2]; omega
    · rw [F0 _ _ (by omega), A30.1]; omega
    · rw [F0 _ _ (by omega), A30.2.1]; omega
    · rw [F0 _ _ (by omega), A30.2.2.2.2]; omega
    · rw [F0 _ _ (by omega), A30.2.2.1]; exact Or.inl rfl
    · rw [F0 _ _ (by omega), A30.2.2.2.1]
      split
      · exact Or.inr rfl
      · exact Or.inl rfl
  · exact (h.bd.2.1 i hi).of (fun y j h1 h2 => (F0 y j (by omega)).trans (Aim y j (by omega)))
  · exact h.bd.2.2.1.of (fun y j h1 h2 => (F0 y j (by omega)).trans (Aim y j (by omega)))
  · exact h.bd.2.2.2.of (fun y j h1 h2 => (F0 y j (by omega)).trans (Aim y j (by omega)))
  · rw [F0 _ _ (by omega)]; exact Az.1
  · rw [F0 _ _ (by omega)]; exact Az.2.1
  · exact Gz.2.2.1
  · have hi2 : i = 0 ∨ i = 1 := by omega
    rcases hi2 with rfl | rfl
    · show (F 250 0 = F 302 0 ∧ _) ∧ (¬ F 302 0 = 0 → _)
      rw [F0 250 0 (by omega), Az.2.2.1, Gz.2.2.2.1]
      exact ⟨⟨rfl, Or.inl rfl⟩, fun q => absurd rfl q⟩
    · show (F 258 0 = F 302 1 ∧ _) ∧ (¬ F 302 1 = 0 → _)
      rw [F0 258 0 (by omega), Az.2.2.2.1, Gz.2.2.2.2]
      exact ⟨⟨rfl, Or.inl rfl⟩, fun q => absurd rfl q⟩
  · rw [F0 _ _ (by omega)]; exact Az.2.2.2.2.1
  · exact Gz.1
  · rw [F0 _ _ (by omega)]; exact Az.2.2.2.2.2
  · exact Gz.2.1
  · unfold DrR
    rw [F0 278 0 (by omega), Aim 278 0 (by omega), F1 279 9 (by omega), B279]
    exact h.dr
  · rw [S00, A300]

theorem pr_probate {M : inm} {w U : Nat} (h : Rel M M w U) : Pr yX9_probate cX9_probate 3 6 yX10_probate cX10_probate 2 5 [] w U M := by
  obtain ⟨E, T, lt, L, n, x, c, h⟩ := h
  intro Q K
  obtain ⟨⟨m, h1, h2, h3, h4⟩, h5⟩ := h.rd
  have hcv : Cs (21 - w) := h.cs.other
  have hv4 := hcv.four
  have hT0 : ∀ j, 0 ≤ (fun j => M 2 j) j ∧ (fun j => M 2 j) j ≤ 255 := fun j => (h4 j).2
  have hskp := skp_in (T := fun j => M 2 j) (n := m) (p := 0) (by omega)
  have hA0 : FrC (21 - w) M (mRd0 M (21 - w) m) := fun y j q1 q2 q3 => by
    unfold mRd0
    exact (up2_ne (by omega)).trans ((up2_ne (by omega)).trans ((up2_ne (by omega)).trans ((up2_ne (by omega)).trans ((up2_ne (by omega)).trans (mClear_ne (by omega))))))
  have z0 : mRd0 M (21 - w) m (21 - w) 0 = (if skp (fun j => M 2 j) m 0 < m then 1 else 0) := by unfold mRd0; exact up2_same
  have zc : ∀ j, 1 ≤ j → mRd0 M (21 - w) m (21 - w) j = mClear M (21 - w) (21 - w) j := fun j hj => by
    unfold mRd0
    exact (up2_ne (by omega)).trans ((up2_ne (by omega)).trans ((up2_ne (by omega)).trans ((up2_ne (by omega)).trans (up2_ne (by omega)))))
  have z1 : mRd0 M (21 - w) m (21 - w) 1 = -1 := (zc 1 (by omega)).trans (by unfold mClear; exact (up2_ne (by omega)).trans ((up2_ne (by omega)).trans ((up2_ne (by omega)).trans up2_same)))
  have z2 : mRd0 M (21 - w) m (21 - w) 2 = ((0 : Nat) : Int) := (zc 2 (by omega)).trans (by unfold mClear; exact (up2_ne (by omega)).trans ((up2_ne (by omega)).trans up2_same))
  have z3 : mRd0 M (21 - w) m (21 - w) 3 = ((0 : Nat) : Int) := (zc 3 (by omega)).trans (by unfold mClear; exact (up2_ne (by omega)).trans up2_same)
  have z4 : mRd0 M (21 - w) m (21 - w) 4 = ((0 : Nat) : Int) := (zc 4 (by omega)).trans (by unfold mClear; exact up2_same)
  have y3 : mRd0 M (21 - w) m 1 3 = ((skp (fun j => M 2 j) m 0 : Nat) : Int) := by unfold mRd0; exact (up2_ne (by omega)).trans up2_same
  have y4 : mRd0 M (21 - w) m 1 4 = 0 := by unfold mRd0; exact (up2_ne (by omega)).trans ((up2_ne (by omega)).trans ((up2_ne (by omega)).trans up2_same))
  have y5 : mRd0 M (21 - w) m 1 5 = -1 := by unfold mRd0; exact (up2_ne (by omega)).trans ((up2_ne (by omega)).trans up2_same)
  have frT : ∀ A : inm, FrC (21 - w) M A → (fun j => A 2 j) = (fun j => M 2 j) := fun A hA => funext fun j => hA 2 j (by omega) (by omega) (by omega)
  have v0 : ∀ k, (∀ j, j < k → itr (cCl (21 - w) m) j (mRd0 M (21 - w) m) 1 4 = 0 ∧ itr (cCl (21 - w) m) j (mRd0 M (21 - w) m) 1 3 < (m : Int)) → True := fun _ _ => trivial
  -- the class's steps
  have hrun : ∀ (k : Nat) (A : inm), A = itr (cCl (21 - w) m) k (mRd0 M (21 - w) m) → (∀ j, j < k → itr (cCl (21 - w) m) j (mRd0 M (21 - w) m) 1 4 = 0 ∧ itr (cCl (21 - w) m) j (mRd0 M (21 - w) m) 1 3 < (m : Int)) → FrC (21 - w) M A ∧ (0 ≤ A 1 4 ∧ A 1 4 ≤ 3) ∧ (A 1 4 = 0 → CIn (21 - w) m k A) := by
    intro k
    induction k with
    | zero =>
      intro A hA _
      subst hA
      exact ⟨hA0, by show 0 ≤ mRd0 M (21 - w) m 1 4 ∧ mRd0 M (21 - w) m 1 4 ≤ 3; rw [y4]; omega, fun _ => ⟨skp (fun j => M 2 j) m 0, -1, 0, 0, 0, ⟨y3, hskp.2, by omega⟩, ⟨z1, Or.inl rfl⟩, ⟨z2, by omega⟩, ⟨z3, by omega⟩, ⟨z4, by omega⟩⟩⟩
    | succ k ih =>
      intro A hA hgo
      subst hA
      obtain ⟨i1, i2, i3⟩ := ih _ rfl (fun j hj => hgo j (by omega))
      have hk := hgo k (by omega)
      obtain ⟨-, s2, s3, s4⟩ := cl_step hcv (frT _ i1) hk.1 (i3 hk.1) hk.2
      exact ⟨fun y j q1 q2 q3 => (s2 y j q1 q2 q3).trans (i1 y j q1 q2 q3), s3, s4⟩
  have hPR0 : ∀ M1 : inm, PR (21 - w) m 0 (fun j => M 2 j) (itr (cCl (21 - w) m) 0 (mRd0 M (21 - w) m)) (rPb0 M1) (-1) 0 0 0 (fun _ => 0) (skp (fun j => M 2 j) m 0) 0 := fun M1 => by
    refine ⟨⟨y4, y5, ?_⟩, ⟨y3, ?_, hskp.2, by omega, rfl, by omega⟩, ⟨z1, ?_, Or.inl ⟨rfl, rfl⟩⟩, fun _ => ⟨rfl, rfl, rfl⟩, ⟨z2, ?_, by omega⟩, fun j hj => absurd hj (by omega), ⟨z3, ?_, by omega⟩, fun j hj => absurd hj (by omega), ⟨z4, ?_, by omega⟩, fun j hj => absurd hj (by omega)⟩
    · unfold rPb0; exact (up2_ne (by omega)).trans ((up2_ne (by omega)).trans ((up2_ne (by omega)).trans ((up2_ne (by omega)).trans ((up2_ne (by omega)).trans up2_same))))
    · unfold rPb0; exact (up2_ne (by omega)).trans ((up2_ne (by omega)).trans ((up2_ne (by omega)).trans ((up2_ne (by omega)).trans up2_same)))
    · unfold rPb0; exact (up2_ne (by omega)).trans ((up2_ne (by omega)).trans ((up2_ne (by omega)).trans up2_same))
    · unfold rPb0; exact (up2_ne (by omega)).trans ((up2_ne (by omega)).trans up2_same)
    · unfold rPb0; exact (up2_ne (by omega)).trans up2_same
    · unfold rPb0; exact up2_same
  have hT1 : (fun j => M 290 j) = (fun j => M 2 j) := funext fun j => (h4 j).1.symm
  refine ok_X9_probate h.cs h1 h3 (fun k A => A = itr (cCl (21 - w) m) k (mRd0 M (21 - w) m) ∧ ∀ j, j < k → itr (cCl (21 - w) m) j (mRd0 M (21 - w) m) 1 4 = 0 ∧ itr (cCl (21 - w) m) j (mRd0 M (21 - w) m) 1 3 < (m : Int)) (fun k A hI => ?_) (fun k A hk hI q1 q2 => ?_) (fun A hI => ?_) (fun k A hI q1 q2 => ?_) (fun k A hI q1 q2 => ?_) ⟨rfl, fun j hj => absurd hj (by omega)⟩
  · exact ((hrun k A hI.1 hI.2).1 1 2 (by omega) (by omega) (by omega)).trans h1
  · obtain ⟨i1, i2, i3⟩ := hrun k A hI.1 hI.2
    obtain ⟨⟨p, L1, E1, Y1, ⟨p1, p2, p3, p4, p5⟩, e⟩, -⟩ := cl_step hcv (frT _ i1) q1 (i3 q1) q2
    refine ⟨p, L1, E1, Y1, ⟨(i1 1 2 (by omega) (by omega) (by omega)).trans h1, p1, p2, fun j _ => ?_, p3, p4, p5⟩, ?_, fun j hj => ?_⟩
    · rw [i1 2 j (by omega) (by omega) (by omega)]
      exact (h4 j).2
    · rw [← e, hI.1]
      rfl
    · by_cases hjk : j = k
      · rw [hjk, ← hI.1]
        exact ⟨q1, q2⟩
      · exact hI.2 j (by omega)
  · obtain ⟨i1, i2, i3⟩ := hrun 240 A hI.1 hI.2
    intro q
    obtain ⟨p, md, L1, E1, Y1, ⟨p1, p2, p3⟩, -⟩ := i3 q.1
    omega
  · obtain ⟨i1, i2, i3⟩ := hrun k A hI.1 hI.2
    refine ⟨i2.1, by omega, K _ _ _ (fun Q2 K2 => ?_)⟩
    have hM1 : ∀ y j, 279 ≤ y → up2 A 1 2 0 y j = M y j := fun y j hy => (up2_ne (by omega)).trans (i1 y j (by omega) (by omega) (by omega))
    have hAk := hI.1
    refine pb_ref (v := 21 - w) (K0 := k) (T := fun j => M 2 j) (C := fun j => itr (cCl (21 - w) m) j (mRd0 M (21 - w) m)) hcv h3 hT0 (fun _ => rfl) (fun j hj => frT _ (hrun j _ rfl (fun i hi => hI.2 i (by omega))).1) ((hM1 _ _ (by omega)).trans h2) ?_ hI.2 (by rw [← hAk]; exact q1) (hPR0 _) (fun M2 hF g1 g2 => ?_) (fun B md L1 E1 Y1 lt1 p q hF hP hpm => ?_)
    · rw [← hT1]
      funext j
      exact hM1 290 j (by omega)
    · rw [← hAk] at g1 g2 ⊢
      refine K2 _ _ _ (RelP.any (h.faulty (fun y j u1 u2 u3 u4 => ?_) (fun y j u1 u2 u3 => ?_) ?_ up2_same ?_)) (by omega)
      · exact (up2_ne (by omega)).trans ((hF y j (by omega) (by omega)).trans ((up2_ne (by omega)).trans (i1 y j (by omega) (by omega) (by omega))))
      · exact (up2_ne (by omega)).trans ((hF y j (by omega) (by omega)).trans (hM1 y j (by omega)))
      · exact (up2_ne (by omega)).trans ((hF 1 2 (by omega) (by omega)).trans up2_same)
      · rw [show up2 M2 279 18 0 1 5 = A 1 5 from (up2_ne (by omega)).trans ((hF 1 5 (by omega) (by omega)).trans (up2_ne (by omega))), show up2 M2 279 18 0 279 19 = M2 279 19 from up2_ne (by omega)]
        exact g2.symm
    · have := hP.1.1
      rw [← hAk] at this
      exact absurd this q2
  · obtain ⟨i1, i2, i3⟩ := hrun k A hI.1 hI.2
    refine K _ _ _ (fun Q2 K2 => ?_)
    have hM1 : ∀ y j, 279 ≤ y → mProb (up2 A 1 2 0) w y j = M y j := fun y j hy => by
      unfold mProb mForget mBegin
      refine (up2_ne (by omega)).trans ((up2_ne (by omega)).trans ((up2_ne (by omega)).trans ((up2_ne (by omega)).trans ((up2_ne (by omega)).trans ((up2_ne (by omega)).trans ((up2_ne (by omega)).trans ((up2_ne (by omega)).trans ((up2_ne (by omega)).trans ((up2_ne (by omega)).trans ((up2_ne (by omega)).trans ((ov_out (by omega)).trans ((ov_out (by omega)).trans ((ov_out (by omega)).trans ((cp2_ne (by omega)).trans ((cp2_ne (by omega)).trans ((up2_ne (by omega)).trans ((up2_ne (by omega)).trans (?_))))))))))))))))))
      exact i1 y j (by omega) (by omega) (by omega)
    have hAk := hI.1
    refine pb_ref (v := 21 - w) (K0 := k) (T := fun j => M 2 j) (C := fun j => itr (cCl (21 - w) m) j (mRd0 M (21 - w) m)) hcv h3 hT0 (fun _ => rfl) (fun j hj => frT _ (hrun j _ rfl (fun i hi => hI.2 i (by omega))).1) ((hM1 _ _ (by omega)).trans h2) ?_ hI.2 (by rw [← hAk]; exact q1) (hPR0 _) (fun M2 hF g1 g2 => ?_) (fun B md L1 E1 Y1 lt1 p q hF hP hpm => ?_)
    · rw [← hT1]
      funext j
      exact hM1 290 j (by omega)
    · rw [← hAk] at g1
      exact absurd q2 g1
    · have hP' : PR (21 - w) m k (fun j => M 2 j) A B md L1 E1 Y1 lt1 p q := by
        rw [hAk]
        exact hP
      have hd0 : A (21 - w) 0 = if k = 0 then 0 else 1 := by
        have hall : ∀ i, i ≤ k → itr (cCl (21 - w) m) i (mRd0 M (21 - w) m) (21 - w) 0 = mRd0 M (21 - w) m (21 - w) 0 := by
          intro i
          induction i with
          | zero => intro _; rfl
          | succ i ih =>
            intro hi
            have hgo := hI.2 i (by omega)
            obtain ⟨j1, j2, j3⟩ := hrun i _ rfl (fun j hj => hI.2 j (by omega))
            obtain ⟨p0, md0, L0, E0, Y0, ⟨p1, p2, p3⟩, hmd, hL, hE, hY⟩ := j3 hgo.1
            have e := cCl_is (n := m) p1 hL.1 hE.1 hY.1
            obtain ⟨s0, s1, s2, s3⟩ := clause_spec (n := m) (p := p0) hcv (frT _ j1) (by omega) hgo.1 hmd hL hE hY
            have h4i : itr (cCl (21 - w) m) (i + 1) (mRd0 M (21 - w) m) 1 4 = 0 := by
              by_cases hik : i + 1 = k
              · rw [hik, ← hAk]
                exact q2
              · exact (hI.2 (i + 1) (by omega)).1
            have hcl : clF (fun j => M 2 j) m p0 md0 L0 E0 Y0 = 0 := by
              rw [← s1, ← e]
              exact h4i
            have hc0 := (s3 hcl).2.2.2.2.2.2.2.2.2.2.1
            rw [← e] at hc0
            exact hc0.trans (ih (by omega))
        rw [hAk, hall k (Nat.le_refl k), z0]
        by_cases hk0 : k = 0
        · subst hk0
          have e3 : A 1 3 = ((skp (fun j => M 2 j) m 0 : Nat) : Int) := by rw [hAk]; exact y3
          rw [if_pos rfl, if_neg]
          intro hlt
          exact q1 ⟨q2, by omega⟩
        · have hgo := (hI.2 0 (by omega)).2
          have e3 : itr (cCl (21 - w) m) 0 (mRd0 M (21 - w) m) 1 3 = ((skp (fun j => M 2 j) m 0 : Nat) : Int) := y3
          rw [if_neg hk0, if_pos (by omega)]
      obtain ⟨f1, f2⟩ := rel_new h rfl i1 hd0 hF hP'
      exact q_eq f2 (K2 _ _ _ f1 (by omega))

