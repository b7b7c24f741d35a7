/-! ===== the reference: parts ===== -/
def rPW (S : Nat → Int) (L : Nat) : Nat → Nat → Int
  | 0 => fun f => if f = L then 0 else 1000000
  | p + 1 => fun f => if f < L then fo (fun i b => min b (max (S (f + 1 + i) - S f) (rPW S L p (f + 1 + i)))) (L - f) 1000000 else 1000000
def rPf (S : Nat → Int) (L p f i : Nat) : Int := fo (fun i b => min b (max (S (f + 1 + i) - S f) (rPW S L p (f + 1 + i)))) i 1000000
theorem rPf_s {S : Nat → Int} {L p f t : Nat} (h : f + 1 ≤ t) : rPf S L p f (t + 1 - (f + 1)) = min (rPf S L p f (t - (f + 1))) (max (S t - S f) (rPW S L p t)) := by
  rw [show t + 1 - (f + 1) = (t - (f + 1)) + 1 by omega]
  show min (rPf S L p f (t - (f + 1))) (max (S (f + 1 + (t - (f + 1))) - S f) (rPW S L p (f + 1 + (t - (f + 1))))) = _
  rw [show f + 1 + (t - (f + 1)) = t by omega]
theorem rPW_s {S : Nat → Int} {L p f : Nat} (hp : 1 ≤ p) (hf : f < L) : rPf S L (p - 1) f (L - f) = rPW S L p f := by
  obtain ⟨q, rfl⟩ : ∃ q, p = q + 1 := ⟨p - 1, by omega⟩
  show rPf S L q f (L - f) = if f < L then _ else _
  rw [if_pos hf]
  rfl
theorem rPW_hi {S : Nat → Int} {L p f : Nat} (hp : 1 ≤ p) (hf : L ≤ f) : rPW S L p f = 1000000 := by
  obtain ⟨q, rfl⟩ : ∃ q, p = q + 1 := ⟨p - 1, by omega⟩
  show (if f < L then _ else _) = _
  rw [if_neg (by omega)]
theorem rPf_in {S : Nat → Int} {L p f : Nat} (h : ∀ g, 0 ≤ rPW S L p g) : ∀ i, 0 ≤ rPf S L p f i ∧ rPf S L p f i ≤ 1000000
  | 0 => by show (0 : Int) ≤ 1000000 ∧ (1000000 : Int) ≤ 1000000; omega
  | i + 1 => by
    have ih := rPf_in (f := f) h i
    have h1 := h (f + 1 + i)
    show 0 ≤ min (rPf S L p f i) (max (S (f + 1 + i) - S f) (rPW S L p (f + 1 + i))) ∧ min (rPf S L p f i) (max (S (f + 1 + i) - S f) (rPW S L p (f + 1 + i))) ≤ 1000000
    omega
theorem rPW_in {S : Nat → Int} {L : Nat} : ∀ p f, 0 ≤ rPW S L p f ∧ rPW S L p f ≤ 1000000
  | 0, f => by show 0 ≤ (if f = L then (0 : Int) else 1000000) ∧ (if f = L then (0 : Int) else 1000000) ≤ 1000000; split <;> omega
  | p + 1, f => by
    show 0 ≤ (if f < L then rPf S L p f (L - f) else 1000000) ∧ (if f < L then rPf S L p f (L - f) else 1000000) ≤ 1000000
    have h := rPf_in (f := f) (fun g => (rPW_in (S := S) (L := L) p g).1) (L - f)
    split <;> omega
/-- the table: p rows, of row p those ahead of f, and v at f -/
def TG (M : inm) (S : Nat → Int) (L p f : Nat) (v : Int) : Prop := ∀ q g, q < 6 → g < 13 → M 298 (13 * q + g) = if q < p then rPW S L q g else if q = p ∧ g < f then rPW S L p g else if q = p ∧ g = f then v else 1000000
theorem TG.up {M : inm} {S : Nat → Int} {L p f : Nat} {v z : Int} (h : TG M S L p f v) (hp : p < 6) (hf : f < 13) : TG (up2 M 298 (13 * p + f) z) S L p f z := by
  intro q g hq hg
  by_cases e : q = p ∧ g = f
  · obtain ⟨rfl, rfl⟩ := e
    rw [up2_same, if_neg (by omega), if_neg (by omega), if_pos ⟨rfl, rfl⟩]
  · rw [up2_ne (by omega), h q g hq hg]
    by_cases h1 : q < p
    · rw [if_pos h1, if_pos h1]
    · rw [if_neg h1, if_neg h1]
      by_cases h2 : q = p ∧ g < f
      · rw [if_pos h2, if_pos h2]
      · rw [if_neg h2, if_neg h2, if_neg e, if_neg e]
theorem TG.next {M : inm} {S : Nat → Int} {L p f : Nat} (h : TG M S L p f (rPW S L p f)) : TG M S L p (f + 1) 1000000 := by
  intro q g hq hg
  rw [h q g hq hg]
  by_cases h1 : q < p
  · rw [if_pos h1, if_pos h1]
  · rw [if_neg h1, if_neg h1]
    by_cases h2 : q = p ∧ g < f
    · rw [if_pos h2, if_pos (by omega)]
    · rw [if_neg h2]
      by_cases h3 : q = p ∧ g = f
      · rw [if_pos h3, if_pos (by omega), h3.2]
      · rw [if_neg h3, if_neg (by omega)]
        split <;> rfl
theorem TG.row {M : inm} {S : Nat → Int} {L p : Nat} (hp : 1 ≤ p) (h : TG M S L p L 1000000) : TG M S L (p + 1) 0 1000000 := by
  intro q g hq hg
  rw [h q g hq hg]
  by_cases h1 : q < p
  · rw [if_pos h1, if_pos (by omega)]
  · rw [if_neg h1]
    by_cases h2 : q = p ∧ g < L
    · rw [if_pos h2, if_pos (by omega), h2.1]
    · rw [if_neg h2, show (if q = p ∧ g = L then (1000000 : Int) else 1000000) = 1000000 by split <;> rfl]
      by_cases h3 : q = p
      · rw [if_pos (show q < p + 1 by omega), h3, rPW_hi hp (by omega)]
      · rw [if_neg (by omega), if_neg (by omega)]
        split <;> rfl
theorem TG.z {M : inm} {S : Nat → Int} {L : Nat} (hL : L ≤ 12) : TG (up2 (ov M 298 78 (fun _ => 1000000)) 298 L 0) S L 1 0 1000000 := by
  intro q g hq hg
  by_cases h1 : q < 1
  · rw [if_pos h1]
    obtain rfl : q = 0 := by omega
    show _ = (if g = L then (0 : Int) else 1000000)
    by_cases h2 : g = L
    · rw [if_pos h2, show 13 * 0 + g = L by omega, up2_same]
    · rw [if_neg h2, up2_ne (by omega), ov_in (by omega)]
  · rw [if_neg h1, up2_ne (by omega), ov_in (by omega), if_neg (by omega)]
    split <;> rfl
theorem Lay10.sr {M M' : inm} {L : Nat} (h : Lay10 M L) (hs : Sr M M') : Lay10 M' L := by
  have e : ∀ j, M' 284 j = M 284 j := fun j => hs 284 j (Or.inl (by omega))
  unfold Lay10 at h ⊢
  simp only [e]
  exact h
theorem sting_sr {M M' : inm} (hs : Sr M M') : (fun j => sting (M' 284 (j + 1)) (M' 284 (j + 13))) = fun j => sting (M 284 (j + 1)) (M 284 (j + 13)) := by
  funext j
  rw [hs 284 (j + 1) (Or.inl (by omega)), hs 284 (j + 13) (Or.inl (by omega))]
set_option maxHeartbeats 4000000 in
set_option maxRecDepth 100000 in
theorem lp_X10_parts95 {w L n : Nat} {a : Int} {M : inm} {p f : Nat} {Q : Int → Nat → rfm → inm → Prop} (hL : Lay10 M L) (hn : 1 ≤ n ∧ n ≤ 5 ∧ n ≤ L) (hp : 1 ≤ p ∧ p ≤ n) (hf : f < L) (hc : ∀ M' : inm, Sr M M' → TG M' (sumTo (fun j => sting (M 284 (j + 1)) (M 284 (j + 13)))) L p f (rPf (sumTo (fun j => sting (M 284 (j + 1)) (M 284 (j + 13)))) L (p - 1) f (L - f)) → Go S0 yX10_parts cX10_parts 9 3 0 0 (some .int) 199 [(5, vI ((f : Nat) : Int)), (4, vI ((p : Nat) : Int)), (3, vI ((L : Nat) : Int)), (0, vR 279), (1, vI ((n : Nat) : Int)), (2, vI a)] [] 303 (PP w) M' (fun v n P M => ∃ z, v = some (vI z) ∧ Q z n P M)) : ∀ d t, L + 1 < t + d → f + 1 ≤ t → t ≤ L + 1 → ∀ M' : inm, Sr M M' → TG M' (sumTo (fun j => sting (M 284 (j + 1)) (M 284 (j + 13)))) L p f (rPf (sumTo (fun j => sting (M 284 (j + 1)) (M 284 (j + 13)))) L (p - 1) f (t - (f + 1))) → Go S0 yX10_parts cX10_parts 9 3 0 0 (some .int) 95 [(6, vI ((t : Nat) : Int)), (5, vI ((f : Nat) : Int)), (4, vI ((p : Nat) : Int)), (3, vI ((L : Nat) : Int)), (0, vR 279), (1, vI ((n : Nat) : Int)), (2, vI a)] [] 303 (PP w) M' (fun v n P M => ∃ z, v = some (vI z) ∧ Q z n P M) := by
  have hL12 := hL.2.1
  intro d
  induction d with
  | zero => intro t h1 h2 h3; exfalso; omega
  | succ d ih =>
    intro t h1 h2 h3 M' hs hG
    have hv := rPf_in (S := (sumTo (fun j => sting (M 284 (j + 1)) (M 284 (j + 13))))) (L := L) (p := p - 1) (f := f) (fun g => (rPW_in (p - 1) g).1) (t - (f + 1))
    have hr := rPW_in (S := (sumTo (fun j => sting (M 284 (j + 1)) (M 284 (j + 13))))) (L := L) (p - 1) t
    refine go_iload 0 dX10_parts_95 rfl ?_
    refine go_iload_n 3 dX10_parts_97 rfl rfl ?_
    refine go_icmp_gt (tgt := 199) dX10_parts_98 rfl (fun c1 => ?_) (fun c1 => ?_)
    · refine go_lv [1, 2, 3, 4, 5, 6] rfl ?_
      exact hc M' hs (by rw [show t - (f + 1) = L - f by omega] at hG; exact hG)
    · refine go_aload_n 4 dX10_parts_101 rfl rfl ?_
      refine go_iload 1 dX10_parts_102 rfl ?_
      refine go_iload 0 dX10_parts_104 rfl ?_
      refine go_callVI (av := [vI ((f : Nat) : Int), vI ((t : Nat) : Int)]) (st := []) (a := 279) (mc2 := 0) (ms2 := 0) dX10_parts_106 cw10_284 (by decide) rfl rfl (Nat.le_of_ble_eq_true rfl) rfl rfl kd_279 ⟨_, _, rfl⟩ (by decide) (by omega) (ok_X10_stingFrom (L := L) (f := f) (g := t) (M := M') (hL.sr hs) ⟨by omega, by omega⟩ ?_)
      rw [sting_sr hs]
      have hsg := sumTo_in (f := (fun j => sting (M 284 (j + 1)) (M 284 (j + 13)))) (b := 40) t (fun i hi => by have h9 := hL.2.2.1 i (by omega); have h8 := sting_in (c := M 284 (i + 1)) h9.1; exact ⟨h8.1, Int.le_trans h8.2 (by have : M 284 (i + 13) ≤ 20 := h9.2; show 2 * M 284 (i + 13) ≤ 40; omega)⟩)
      have hsf := sumTo_in (f := (fun j => sting (M 284 (j + 1)) (M 284 (j + 13)))) (b := 40) f (fun i hi => by have h9 := hL.2.2.1 i (by omega); have h8 := sting_in (c := M 284 (i + 1)) h9.1; exact ⟨h8.1, Int.le_trans h8.2 (by have : M 284 (i + 13) ≤ 20 := h9.2; show 2 * M 284 (i + 13) ≤ 40; omega)⟩)
      refine go_istore (lv' := [(7, vI ((sumTo (fun j => sting (M 284 (j + 1)) (M 284 (j + 13)))) t - (sumTo (fun j => sting (M 284 (j + 1)) (M 284 (j + 13)))) f)), (6, vI ((t : Nat) : Int)), (5, vI ((f : Nat) : Int)), (4, vI ((p : Nat) : Int)), (3, vI ((L : Nat) : Int)), (0, vR 279), (1, vI ((n : Nat) : Int)), (2, vI a)]) dX10_parts_109 (by decide) rfl ?_
      refine go_aload_n 5 dX10_parts_111 rfl rfl ?_
      refine go_getR (r := 298) dX10_parts_112 lk10_68.get kd_279 (by omega) rfl (pp_279_35 w) ?_
      refine go_bipush dX10_parts_115 (by decide) (by decide) ?_
      refine go_iload 3 dX10_parts_117 rfl ?_
      refine go_iconst dX10_parts_119 (by decide) ?_
      refine gx_isub (v := ((p - 1 : Nat) : Int)) dX10_parts_120 (by omega) ⟨by omega, by omega⟩ ?_
      refine gx_imul (v := ((13 * (p - 1) : Nat) : Int)) dX10_parts_121 (by omega) ⟨by omega, by omega⟩ ?_
      refine go_iload 1 dX10_parts_122 rfl ?_
      refine gx_iadd (v := (((13 * (p - 1)) + t : Nat) : Int)) dX10_parts_124 (by omega) ⟨by omega, by omega⟩ ?_
      refine gx_iaload (v := (rPW (sumTo (fun j => sting (M 284 (j + 1)) (M 284 (j + 13)))) L (p - 1) t)) ((13 * (p - 1)) + t) dX10_parts_125 kd_298 (by omega) ln_298 rfl (by omega) (((hG (p - 1) t (by omega) (by omega)).trans (if_pos (by omega)))) ?_
      refine go_istore (lv' := [(8, vI (rPW (sumTo (fun j => sting (M 284 (j + 1)) (M 284 (j + 13)))) L (p - 1) t)), (7, vI ((sumTo (fun j => sting (M 284 (j + 1)) (M 284 (j + 13)))) t - (sumTo (fun j => sting (M 284 (j + 1)) (M 284 (j + 13)))) f)), (6, vI ((t : Nat) : Int)), (5, vI ((f : Nat) : Int)), (4, vI ((p : Nat) : Int)), (3, vI ((L : Nat) : Int)), (0, vR 279), (1, vI ((n : Nat) : Int)), (2, vI a)]) dX10_parts_126 (by decide) rfl ?_
      refine go_iload 0 dX10_parts_128 rfl ?_
      refine go_iload 1 dX10_parts_130 rfl ?_
      refine go_icmp_le (tgt := 140) dX10_parts_132 rfl (fun c2 => ?_) (fun c2 => ?_)
      · refine go_iload 1 dX10_parts_140 rfl ?_
        refine go_istore (lv' := [(7, vI ((sumTo (fun j => sting (M 284 (j + 1)) (M 284 (j + 13)))) t - (sumTo (fun j => sting (M 284 (j + 1)) (M 284 (j + 13)))) f)), (8, vI (rPW (sumTo (fun j => sting (M 284 (j + 1)) (M 284 (j + 13)))) L (p - 1) t)), (6, vI ((t : Nat) : Int)), (5, vI ((f : Nat) : Int)), (4, vI ((p : Nat) : Int)), (3, vI ((L : Nat) : Int)), (0, vR 279), (1, vI ((n : Nat) : Int)), (2, vI a)]) dX10_parts_142 (by decide) rfl ?_
        refine go_aload_n 6 dX10_parts_144 rfl rfl ?_
        refine go_getR (r := 298) dX10_parts_145 lk10_68.get kd_279 (by omega) rfl (pp_279_35 w) ?_
        refine go_bipush dX10_parts_148 (by decide) (by decide) ?_
        refine go_iload 4 dX10_parts_150 rfl ?_
        refine gx_imul (v := ((13 * p : Nat) : Int)) dX10_parts_152 (by omega) ⟨by omega, by omega⟩ ?_
        refine go_iload 3 dX10_parts_153 rfl ?_
        refine gx_iadd (v := (((13 * p) + f : Nat) : Int)) dX10_parts_155 (by omega) ⟨by omega, by omega⟩ ?_
        refine go_iload 0 dX10_parts_156 rfl ?_
        refine go_aload_n 6 dX10_parts_158 rfl rfl ?_
        refine go_getR (r := 298) dX10_parts_159 lk10_68.get kd_279 (by omega) rfl (pp_279_35 w) ?_
        refine go_bipush dX10_parts_162 (by decide) (by decide) ?_
        refine go_iload 4 dX10_parts_164 rfl ?_
        refine gx_imul (v := ((13 * p : Nat) : Int)) dX10_parts_166 (by omega) ⟨by omega, by omega⟩ ?_
        refine go_iload 3 dX10_parts_167 rfl ?_
        refine gx_iadd (v := (((13 * p) + f : Nat) : Int)) dX10_parts_169 (by omega) ⟨by omega, by omega⟩ ?_
        refine gx_iaload (v := (rPf (sumTo (fun j => sting (M 284 (j + 1)) (M 284 (j + 13)))) L (p - 1) f (t - (f + 1)))) ((13 * p) + f) dX10_parts_170 kd_298 (by omega) ln_298 rfl (by omega) (((hG p f (by omega) (by omega)).trans ((if_neg (by omega)).trans ((if_neg (by omega)).trans (if_pos (by omega)))))) ?_
        refine go_icmp_ge (tgt := 179) dX10_parts_171 rfl (fun c3 => ?_) (fun c3 => ?_)
        · refine go_aload_n 6 dX10_parts_179 rfl rfl ?_
          refine go_getR (r := 298) dX10_parts_180 lk10_68.get kd_279 (by omega) rfl (pp_279_35 w) ?_
          refine go_bipush dX10_parts_183 (by decide) (by decide) ?_
          refine go_iload 4 dX10_parts_185 rfl ?_
          refine gx_imul (v := ((13 * p : Nat) : Int)) dX10_parts_187 (by omega) ⟨by omega, by omega⟩ ?_
          refine go_iload 3 dX10_parts_188 rfl ?_
          refine gx_iadd (v := (((13 * p) + f : Nat) : Int)) dX10_parts_190 (by omega) ⟨by omega, by omega⟩ ?_
          refine gx_iaload (v := (rPf (sumTo (fun j => sting (M 284 (j + 1)) (M 284 (j + 13)))) L (p - 1) f (t - (f + 1)))) ((13 * p) + f) dX10_parts_191 kd_298 (by omega) ln_298 rfl (by omega) (((hG p f (by omega) (by omega)).trans ((if_neg (by omega)).trans ((if_neg (by omega)).trans (if_pos (by omega)))))) ?_
          refine gx_iastore ((13 * p) + f) dX10_parts_192 kd_298 (by omega) ln_298 rfl (by omega) ?_
          refine gx_iinc (v := ((t + 1 : Nat) : Int)) (lv' := [(6, vI ((t + 1 : Nat) : Int)), (7, vI ((sumTo (fun j => sting (M 284 (j + 1)) (M 284 (j + 13)))) t - (sumTo (fun j => sting (M 284 (j + 1)) (M 284 (j + 13)))) f)), (8, vI (rPW (sumTo (fun j => sting (M 284 (j + 1)) (M 284 (j + 13)))) L (p - 1) t)), (5, vI ((f : Nat) : Int)), (4, vI ((p : Nat) : Int)), (3, vI ((L : Nat) : Int)), (0, vR 279), (1, vI ((n : Nat) : Int)), (2, vI a)]) 2 dX10_parts_193 rfl (by omega) ⟨by omega, by omega⟩ (by decide) rfl ?_
          refine go_goto (tgt := 95) dX10_parts_196 rfl ?_
          refine go_lv [0, 3, 4, 5, 6, 7, 8] rfl ?_
          have hz : (rPf (sumTo (fun j => sting (M 284 (j + 1)) (M 284 (j + 13)))) L (p - 1) f (t - (f + 1))) = (rPf (sumTo (fun j => sting (M 284 (j + 1)) (M 284 (j + 13)))) L (p - 1) f (t + 1 - (f + 1))) := by rw [rPf_s (by omega)]; omega
          exact ih (t + 1) (by omega) (by omega) (by omega) _ (hs.up (by omega)) (by rw [← hz]; exact hG.up (by omega) (by omega))
        · refine go_iload 0 dX10_parts_174 rfl ?_
          refine go_goto (tgt := 192) dX10_parts_176 rfl ?_
          refine gx_iastore ((13 * p) + f) dX10_parts_192 kd_298 (by omega) ln_298 rfl (by omega) ?_
          refine gx_iinc (v := ((t + 1 : Nat) : Int)) (lv' := [(6, vI ((t + 1 : Nat) : Int)), (7, vI ((sumTo (fun j => sting (M 284 (j + 1)) (M 284 (j + 13)))) t - (sumTo (fun j => sting (M 284 (j + 1)) (M 284 (j + 13)))) f)), (8, vI (rPW (sumTo (fun j => sting (M 284 (j + 1)) (M 284 (j + 13)))) L (p - 1) t)), (5, vI ((f : Nat) : Int)), (4, vI ((p : Nat) : Int)), (3, vI ((L : Nat) : Int)), (0, vR 279), (1, vI ((n : Nat) : Int)), (2, vI a)]) 2 dX10_parts_193 rfl (by omega) ⟨by omega, by omega⟩ (by decide) rfl ?_
          refine go_goto (tgt := 95) dX10_parts_196 rfl ?_
          refine go_lv [0, 3, 4, 5, 6, 7, 8] rfl ?_
          have hz : ((sumTo (fun j => sting (M 284 (j + 1)) (M 284 (j + 13)))) t - (sumTo (fun j => sting (M 284 (j + 1)) (M 284 (j + 13)))) f) = (rPf (sumTo (fun j => sting (M 284 (j + 1)) (M 284 (j + 13)))) L (p - 1) f (t + 1 - (f + 1))) := by rw [rPf_s (by omega)]; omega
          exact ih (t + 1) (by omega) (by omega) (by omega) _ (hs.up (by omega)) (by rw [← hz]; exact hG.up (by omega) (by omega))
      · refine go_iload 0 dX10_parts_135 rfl ?_
        refine go_goto (tgt := 142) dX10_parts_137 rfl ?_
        refine go_istore (lv' := [(7, vI (rPW (sumTo (fun j => sting (M 284 (j + 1)) (M 284 (j + 13)))) L (p - 1) t)), (8, vI (rPW (sumTo (fun j => sting (M 284 (j + 1)) (M 284 (j + 13)))) L (p - 1) t)), (6, vI ((t : Nat) : Int)), (5, vI ((f : Nat) : Int)), (4, vI ((p : Nat) : Int)), (3, vI ((L : Nat) : Int)), (0, vR 279), (1, vI ((n : Nat) : Int)), (2, vI a)]) dX10_parts_142 (by decide) rfl ?_
        refine go_aload_n 6 dX10_parts_144 rfl rfl ?_
        refine go_getR (r := 298) dX10_parts_145 lk10_68.get kd_279 (by omega) rfl (pp_279_35 w) ?_
        refine go_bipush dX10_parts_148 (by decide) (by decide) ?_
        refine go_iload 4 dX10_parts_150 rfl ?_
        refine gx_imul (v := ((13 * p : Nat) : Int)) dX10_parts_152 (by omega) ⟨by omega, by omega⟩ ?_
        refine go_iload 3 dX10_parts_153 rfl ?_
        refine gx_iadd (v := (((13 * p) + f : Nat) : Int)) dX10_parts_155 (by omega) ⟨by omega, by omega⟩ ?_
        refine go_iload 0 dX10_parts_156 rfl ?_
        refine go_aload_n 6 dX10_parts_158 rfl rfl ?_
        refine go_getR (r := 298) dX10_parts_159 lk10_68.get kd_279 (by omega) rfl (pp_279_35 w) ?_
        refine go_bipush dX10_parts_162 (by decide) (by decide) ?_
        refine go_iload 4 dX10_parts_164 rfl ?_
        refine gx_imul (v := ((13 * p : Nat) : Int)) dX10_parts_166 (by omega) ⟨by omega, by omega⟩ ?_
        refine go_iload 3 dX10_parts_167 rfl ?_
        refine gx_iadd (v := (((13 * p) + f : Nat) : Int)) dX10_parts_169 (by omega) ⟨by omega, by omega⟩ ?_
        refine gx_iaload (v := (rPf (sumTo (fun j => sting (M 284 (j + 1)) (M 284 (j + 13)))) L (p - 1) f (t - (f + 1)))) ((13 * p) + f) dX10_parts_170 kd_298 (by omega) ln_298 rfl (by omega) (((hG p f (by omega) (by omega)).trans ((if_neg (by omega)).trans ((if_neg (by omega)).trans (if_pos (by omega)))))) ?_
        refine go_icmp_ge (tgt := 179) dX10_parts_171 rfl (fun c4 => ?_) (fun c4 => ?_)
        · refine go_aload_n 6 dX10_parts_179 rfl rfl ?_
          refine go_getR (r := 298) dX10_parts_180 lk10_68.get kd_279 (by omega) rfl (pp_279_35 w) ?_
          refine go_bipush dX10_parts_183 (by decide) (by decide) ?_
          refine go_iload 4 dX10_parts_185 rfl ?_
          refine gx_imul (v := ((13 * p : Nat) : Int)) dX10_parts_187 (by omega) ⟨by omega, by omega⟩ ?_
          refine go_iload 3 dX10_parts_188 rfl ?_
          refine gx_iadd (v := (((13 * p) + f : Nat) : Int)) dX10_parts_190 (by omega) ⟨by omega, by omega⟩ ?_
          refine gx_iaload (v := (rPf (sumTo (fun j => sting (M 284 (j + 1)) (M 284 (j + 13)))) L (p - 1) f (t - (f + 1)))) ((13 * p) + f) dX10_parts_191 kd_298 (by omega) ln_298 rfl (by omega) (((hG p f (by omega) (by omega)).trans ((if_neg (by omega)).trans ((if_neg (by omega)).trans (if_pos (by omega)))))) ?_
          refine gx_iastore ((13 * p) + f) dX10_parts_192 kd_298 (by omega) ln_298 rfl (by omega) ?_
          refine gx_iinc (v := ((t + 1 : Nat) : Int)) (lv' := [(6, vI ((t + 1 : Nat) : Int)), (7, vI (rPW (sumTo (fun j => sting (M 284 (j + 1)) (M 284 (j + 13)))) L (p - 1) t)), (8, vI (rPW (sumTo (fun j => sting (M 284 (j + 1)) (M 284 (j + 13)))) L (p - 1) t)), (5, vI ((f : Nat) : Int)), (4, vI ((p : Nat) : Int)), (3, vI ((L : Nat) : Int)), (0, vR 279), (1, vI ((n : Nat) : Int)), (2, vI a)]) 2 dX10_parts_193 rfl (by omega) ⟨by omega, by omega⟩ (by decide) rfl ?_
          refine go_goto (tgt := 95) dX10_parts_196 rfl ?_
          refine go_lv [0, 3, 4, 5, 6, 7, 8] rfl ?_
          have hz : (rPf (sumTo (fun j => sting (M 284 (j + 1)) (M 284 (j + 13)))) L (p - 1) f (t - (f + 1))) = (rPf (sumTo (fun j => sting (M 284 (j + 1)) (M 284 (j + 13)))) L (p - 1) f (t + 1 - (f + 1))) := by rw [rPf_s (by omega)]; omega
          exact ih (t + 1) (by omega) (by omega) (by omega) _ (hs.up (by omega)) (by rw [← hz]; exact hG.up (by omega) (by omega))
        · refine go_iload 0 dX10_parts_174 rfl ?_
          refine go_goto (tgt := 192) dX10_parts_176 rfl ?_
          refine gx_iastore ((13 * p) + f) dX10_parts_192 kd_298 (by omega) ln_298 rfl (by omega) ?_
          refine gx_iinc (v := ((t + 1 : Nat) : Int)) (lv' := [(6, vI ((t + 1 : Nat) : Int)), (7, vI (rPW (sumTo (fun j => sting (M 284 (j + 1)) (M 284 (j + 13)))) L (p - 1) t)), (8, vI (rPW (sumTo (fun j => sting (M 284 (j + 1)) (M 284 (j + 13)))) L (p - 1) t)), (5, vI ((f : Nat) : Int)), (4, vI ((p : Nat) : Int)), (3, vI ((L : Nat) : Int)), (0, vR 279), (1, vI ((n : Nat) : Int)), (2, vI a)]) 2 dX10_parts_193 rfl (by omega) ⟨by omega, by omega⟩ (by decide) rfl ?_
          refine go_goto (tgt := 95) dX10_parts_196 rfl ?_
          refine go_lv [0, 3, 4, 5, 6, 7, 8] rfl ?_
          have hz : (rPW (sumTo (fun j => sting (M 284 (j + 1)) (M 284 (j + 13)))) L (p - 1) t) = (rPf (sumTo (fun j => sting (M 284 (j + 1)) (M 284 (j + 13)))) L (p - 1) f (t + 1 - (f + 1))) := by rw [rPf_s (by omega)]; omega
          exact ih (t + 1) (by omega) (by omega) (by omega) _ (hs.up (by omega)) (by rw [← hz]; exact hG.up (by omega) (by omega))

set_option maxHeartbeats 4000000 in
set_option maxRecDepth 100000 in
theorem lp_X10_parts83 {w L n : Nat} {a : Int} {M : inm} {p : Nat} {Q : Int → Nat → rfm → inm → Prop} (hL : Lay10 M L) (hn : 1 ≤ n ∧ n ≤ 5 ∧ n ≤ L) (hp : 1 ≤ p ∧ p ≤ n) (hc : ∀ M' : inm, Sr M M' → TG M' (sumTo (fun j => sting (M 284 (j + 1)) (M 284 (j + 13)))) L p L 1000000 → Go S0 yX10_parts cX10_parts 9 3 0 0 (some .int) 205 [(4, vI ((p : Nat) : Int)), (3, vI ((L : Nat) : Int)), (0, vR 279), (1, vI ((n : Nat) : Int)), (2, vI a)] [] 303 (PP w) M' (fun v n P M => ∃ z, v = some (vI z) ∧ Q z n P M)) : ∀ d f, L < f + d → f ≤ L → ∀ M' : inm, Sr M M' → TG M' (sumTo (fun j => sting (M 284 (j + 1)) (M 284 (j + 13)))) L p f 1000000 → Go S0 yX10_parts cX10_parts 9 3 0 0 (some .int) 83 [(5, vI ((f : Nat) : Int)), (4, vI ((p : Nat) : Int)), (3, vI ((L : Nat) : Int)), (0, vR 279), (1, vI ((n : Nat) : Int)), (2, vI a)] [] 303 (PP w) M' (fun v n P M => ∃ z, v = some (vI z) ∧ Q z n P M) := by
  have hL12 := hL.2.1
  intro d
  induction d with
  | zero => intro f h1 h2; exfalso; omega
  | succ d ih =>
    intro f h1 h2 M' hs hG
    refine go_iload 0 dX10_parts_83 rfl ?_
    refine go_iload_n 2 dX10_parts_85 rfl rfl ?_
    refine go_icmp_ge (tgt := 205) dX10_parts_86 rfl (fun c1 => ?_) (fun c1 => ?_)
    · refine go_lv [1, 2, 3, 4, 5] rfl ?_
      exact hc M' hs (by rw [show f = L by omega] at hG; exact hG)
    · refine go_iload 0 dX10_parts_89 rfl ?_
      refine go_iconst dX10_parts_91 (by decide) ?_
      refine gx_iadd (v := ((f + 1 : Nat) : Int)) dX10_parts_92 (by omega) ⟨by omega, by omega⟩ ?_
      refine go_istore (lv' := [(6, vI ((f + 1 : Nat) : Int)), (5, vI ((f : Nat) : Int)), (4, vI ((p : Nat) : Int)), (3, vI ((L : Nat) : Int)), (0, vR 279), (1, vI ((n : Nat) : Int)), (2, vI a)]) dX10_parts_93 (by decide) rfl ?_
      refine go_lv [0, 1, 2, 3, 4, 5, 6] rfl ?_
      refine lp_X10_parts95 hL hn hp (by omega) (fun M2 hs2 hG2 => ?_) (L + 1) (f + 1) (by omega) (by omega) (by omega) M' hs (by rw [Nat.sub_self]; exact hG)
      refine gx_iinc (v := ((f + 1 : Nat) : Int)) (lv' := [(5, vI ((f + 1 : Nat) : Int)), (4, vI ((p : Nat) : Int)), (3, vI ((L : Nat) : Int)), (0, vR 279), (1, vI ((n : Nat) : Int)), (2, vI a)]) 0 dX10_parts_199 rfl (by omega) ⟨by omega, by omega⟩ (by decide) rfl ?_
      refine go_goto (tgt := 83) dX10_parts_202 rfl ?_
      refine go_lv [0, 1, 2, 3, 4, 5] rfl ?_
      exact ih (f + 1) (by omega) (by omega) M2 hs2 (by rw [rPW_s (by omega) (by omega)] at hG2; exact hG2.next)

set_option maxHeartbeats 4000000 in
set_option maxRecDepth 100000 in
theorem lp_X10_parts232 {w L n : Nat} {a : Int} {M : inm} {t0 : Nat} {M' : inm} {Q : Int → Nat → rfm → inm → Prop} (hL : Lay10 M L) (hn : 1 ≤ n ∧ n ≤ 5 ∧ n ≤ L) (ht0 : 1 ≤ t0 ∧ t0 ≤ L) (hok : ((sumTo (fun j => sting (M 284 (j + 1)) (M 284 (j + 13)))) t0 - (sumTo (fun j => sting (M 284 (j + 1)) (M 284 (j + 13)))) 0 ≤ (rPW (sumTo (fun j => sting (M 284 (j + 1)) (M 284 (j + 13)))) L n 0) ∧ (rPW (sumTo (fun j => sting (M 284 (j + 1)) (M 284 (j + 13)))) L (n - 1) t0) ≤ (rPW (sumTo (fun j => sting (M 284 (j + 1)) (M 284 (j + 13)))) L n 0))) (hmin : ∀ x, 1 ≤ x → x < t0 → (rPW (sumTo (fun j => sting (M 284 (j + 1)) (M 284 (j + 13)))) L n 0) < (sumTo (fun j => sting (M 284 (j + 1)) (M 284 (j + 13)))) x - (sumTo (fun j => sting (M 284 (j + 1)) (M 284 (j + 13)))) 0 ∨ (rPW (sumTo (fun j => sting (M 284 (j + 1)) (M 284 (j + 13)))) L n 0) < (rPW (sumTo (fun j => sting (M 284 (j + 1)) (M 284 (j + 13)))) L (n - 1) x)) (hs : Sr M M') (hG : TG M' (sumTo (fun j => sting (M 284 (j + 1)) (M 284 (j + 13)))) L (n + 1) 0 1000000) (hQ : Q ((t0 : Nat) : Int) 303 (PP w) M') : ∀ d x, t0 < x + d → 1 ≤ x → x ≤ t0 → Go S0 yX10_parts cX10_parts 9 3 0 0 (some .int) 232 [(5, vI ((x : Nat) : Int)), (4, vI (rPW (sumTo (fun j => sting (M 284 (j + 1)) (M 284 (j + 13)))) L n 0)), (3, vI ((L : Nat) : Int)), (0, vR 279), (1, vI ((n : Nat) : Int)), (2, vI a)] [] 303 (PP w) M' (fun v n P M => ∃ z, v = some (vI z) ∧ Q z n P M) := by
  have hL12 := hL.2.1
  intro d
  induction d with
  | zero => intro x h1 h2 h3; exfalso; omega
  | succ d ih =>
    intro x h1 h2 h3
    refine go_aload_n 3 dX10_parts_232 rfl rfl ?_
    refine go_iconst dX10_parts_233 (by decide) ?_
    refine go_iload 0 dX10_parts_234 rfl ?_
    refine go_callVI (av := [vI 0, vI ((x : Nat) : Int)]) (st := []) (a := 279) (mc2 := 0) (ms2 := 0) dX10_parts_236 cw10_284 (by decide) rfl rfl (Nat.le_of_ble_eq_true rfl) rfl rfl kd_279 ⟨_, _, rfl⟩ (by decide) (by omega) (ok_X10_stingFrom (L := L) (f := 0) (g := x) (M := M') (hL.sr hs) ⟨by omega, by omega⟩ ?_)
    rw [sting_sr hs]
    have hsg := sumTo_in (f := (fun j => sting (M 284 (j + 1)) (M 284 (j + 13)))) (b := 40) x (fun i hi => by have h9 := hL.2.2.1 i (by omega); have h8 := sting_in (c := M 284 (i + 1)) h9.1; exact ⟨h8.1, Int.le_trans h8.2 (by have : M 284 (i + 13) ≤ 20 := h9.2; show 2 * M 284 (i + 13) ≤ 40; omega)⟩)
    have hsf := sumTo_in (f := (fun j => sting (M 284 (j + 1)) (M 284 (j + 13)))) (b := 40) 0 (fun i hi => by have h9 := hL.2.2.1 i (by omega); have h8 := sting_in (c := M 284 (i + 1)) h9.1; exact ⟨h8.1, Int.le_trans h8.2 (by have : M 284 (i + 13) ≤ 20 := h9.2; show 2 * M 284 (i + 13) ≤ 40; omega)⟩)
    refine go_iload 1 dX10_parts_239 rfl ?_
    refine go_icmp_gt (tgt := 263) dX10_parts_241 rfl (fun c1 => ?_) (fun c1 => ?_)
    · refine gx_iinc (v := ((x + 1 : Nat) : Int)) (lv' := [(5, vI ((x + 1 : Nat) : Int)), (4, vI (rPW (sumTo (fun j => sting (M 284 (j + 1)) (M 284 (j + 13)))) L n 0)), (3, vI ((L : Nat) : Int)), (0, vR 279), (1, vI ((n : Nat) : Int)), (2, vI a)]) 0 dX10_parts_263 rfl (by omega) ⟨by omega, by omega⟩ (by decide) rfl ?_
      refine go_goto (tgt := 232) dX10_parts_266 rfl ?_
      refine go_lv [0, 1, 2, 3, 4, 5] rfl ?_
      have hx : x ≠ t0 := by
        intro e
        subst e
        omega
      exact ih (x + 1) (by omega) (by omega) (by omega)
    · refine go_aload_n 3 dX10_parts_244 rfl rfl ?_
      refine go_getR (r := 298) dX10_parts_245 lk10_68.get kd_279 (by omega) rfl (pp_279_35 w) ?_
      refine go_bipush dX10_parts_248 (by decide) (by decide) ?_
      refine go_iload_n 4 dX10_parts_250 rfl rfl ?_
      refine go_iconst dX10_parts_251 (by decide) ?_
      refine gx_isub (v := ((n - 1 : Nat) : Int)) dX10_parts_252 (by omega) ⟨by omega, by omega⟩ ?_
      refine gx_imul (v := ((13 * (n - 1) : Nat) : Int)) dX10_parts_253 (by omega) ⟨by omega, by omega⟩ ?_
      refine go_iload 0 dX10_parts_254 rfl ?_
      refine gx_iadd (v := (((13 * (n - 1)) + x : Nat) : Int)) dX10_parts_256 (by omega) ⟨by omega, by omega⟩ ?_
      refine gx_iaload (v := (rPW (sumTo (fun j => sting (M 284 (j + 1)) (M 284 (j + 13)))) L (n - 1) x)) ((13 * (n - 1)) + x) dX10_parts_257 kd_298 (by omega) ln_298 rfl (by omega) (((hG (n - 1) x (by omega) (by omega)).trans (if_pos (by omega)))) ?_
      refine go_iload 1 dX10_parts_258 rfl ?_
      refine go_icmp_le (tgt := 269) dX10_parts_260 rfl (fun c2 => ?_) (fun c2 => ?_)
      · refine go_iload 0 dX10_parts_269 rfl ?_
        refine go_iret dX10_parts_271 rfl rfl ⟨_, rfl, ?_⟩
        have hx : x = t0 := by
          refine Classical.byContradiction (fun hne => ?_)
          have := hmin x (by omega) (by omega)
          omega
        subst hx
        exact hQ
      · refine gx_iinc (v := ((x + 1 : Nat) : Int)) (lv' := [(5, vI ((x + 1 : Nat) : Int)), (4, vI (rPW (sumTo (fun j => sting (M 284 (j + 1)) (M 284 (j + 13)))) L n 0)), (3, vI ((L : Nat) : Int)), (0, vR 279), (1, vI ((n : Nat) : Int)), (2, vI a)]) 0 dX10_parts_263 rfl (by omega) ⟨by omega, by omega⟩ (by decide) rfl ?_
        refine go_goto (tgt := 232) dX10_parts_266 rfl ?_
        refine go_lv [0, 1, 2, 3, 4, 5] rfl ?_
        have hx : x ≠ t0 := by
          intro e
          subst e
          omega
        exact ih (x + 1) (by omega) (by omega) (by omega)

set_option maxHeartbeats 4000000 in
set_option maxRecDepth 100000 in
theorem lp_X10_parts74 {w L n : Nat} {a : Int} {M : inm} {Q : Int → Nat → rfm → inm → Prop} (hL : Lay10 M L) (hn : 1 ≤ n ∧ n ≤ 5 ∧ n ≤ L) (ha : a = 0 ∨ a = 1) (g0 : a = 0 → ∀ M' : inm, Sr M M' → Q (rPW (sumTo (fun j => sting (M 284 (j + 1)) (M 284 (j + 13)))) L n 0) 303 (PP w) M') (g1 : a = 1 → ∃ t0 : Nat, (1 ≤ t0 ∧ t0 ≤ L) ∧ ((sumTo (fun j => sting (M 284 (j + 1)) (M 284 (j + 13)))) t0 - (sumTo (fun j => sting (M 284 (j + 1)) (M 284 (j + 13)))) 0 ≤ (rPW (sumTo (fun j => sting (M 284 (j + 1)) (M 284 (j + 13)))) L n 0) ∧ (rPW (sumTo (fun j => sting (M 284 (j + 1)) (M 284 (j + 13)))) L (n - 1) t0) ≤ (rPW (sumTo (fun j => sting (M 284 (j + 1)) (M 284 (j + 13)))) L n 0)) ∧ (∀ x, 1 ≤ x → x < t0 → (rPW (sumTo (fun j => sting (M 284 (j + 1)) (M 284 (j + 13)))) L n 0) < (sumTo (fun j => sting (M 284 (j + 1)) (M 284 (j + 13)))) x - (sumTo (fun j => sting (M 284 (j + 1)) (M 284 (j + 13)))) 0 ∨ (rPW (sumTo (fun j => sting (M 284 (j + 1)) (M 284 (j + 13)))) L n 0) < (rPW (sumTo (fun j => sting (M 284 (j + 1)) (M 284 (j + 13)))) L (n - 1) x)) ∧ ∀ M' : inm, Sr M M' → Q ((t0 : Nat) : Int) 303 (PP w) M') : ∀ d p, n + 1 < p + d → 1 ≤ p → p ≤ n + 1 → ∀ M' : inm, Sr M M' → TG M' (sumTo (fun j => sting (M 284 (j + 1)) (M 284 (j + 13)))) L p 0 1000000 → Go S0 yX10_parts cX10_parts 9 3 0 0 (some .int) 74 [(4, vI ((p : Nat) : Int)), (3, vI ((L : Nat) : Int)), (0, vR 279), (1, vI ((n : Nat) : Int)), (2, vI a)] [] 303 (PP w) M' (fun v n P M => ∃ z, v = some (vI z) ∧ Q z n P M) := by
  have hL12 := hL.2.1
  intro d
  induction d with
  | zero => intro p h1 h2 h3; exfalso; omega
  | succ d ih =>
    intro p h1 h2 h3 M' hs hG
    refine go_iload 0 dX10_parts_74 rfl ?_
    refine go_iload_n 3 dX10_parts_76 rfl rfl ?_
    refine go_icmp_gt (tgt := 211) dX10_parts_77 rfl (fun c1 => ?_) (fun c1 => ?_)
    · have hpn : p = n + 1 := by omega
      rw [hpn] at hG
      refine go_aload_n 2 dX10_parts_211 rfl rfl ?_
      refine go_getR (r := 298) dX10_parts_212 lk10_68.get kd_279 (by omega) rfl (pp_279_35 w) ?_
      refine go_bipush dX10_parts_215 (by decide) (by decide) ?_
      refine go_iload_n 3 dX10_parts_217 rfl rfl ?_
      refine gx_imul (v := ((13 * n : Nat) : Int)) dX10_parts_218 (by omega) ⟨by omega, by omega⟩ ?_
      refine gx_iaload (v := (rPW (sumTo (fun j => sting (M 284 (j + 1)) (M 284 (j + 13)))) L n 0)) (13 * n) dX10_parts_219 kd_298 (by omega) ln_298 rfl (by omega) (((hG n 0 (by omega) (by omega)).trans (if_pos (by omega)))) ?_
      refine go_istore (lv' := [(4, vI (rPW (sumTo (fun j => sting (M 284 (j + 1)) (M 284 (j + 13)))) L n 0)), (3, vI ((L : Nat) : Int)), (0, vR 279), (1, vI ((n : Nat) : Int)), (2, vI a)]) dX10_parts_220 (by decide) rfl ?_
      refine go_iload_n 4 dX10_parts_222 rfl rfl ?_
      refine go_if_ne (tgt := 229) dX10_parts_223 rfl (fun c52 => ?_) (fun c52 => ?_)
      · refine go_iconst dX10_parts_229 (by decide) ?_
        refine go_istore (lv' := [(5, vI 1), (4, vI (rPW (sumTo (fun j => sting (M 284 (j + 1)) (M 284 (j + 13)))) L n 0)), (3, vI ((L : Nat) : Int)), (0, vR 279), (1, vI ((n : Nat) : Int)), (2, vI a)]) dX10_parts_230 (by decide) rfl ?_
        refine go_lv [0, 1, 2, 3, 4, 5] rfl ?_
        have ha1 : a = 1 := by clear g1; omega
        obtain ⟨t0, ht0, hok, hmin, hQ⟩ := g1 ha1
        exact lp_X10_parts232 hL hn ht0 hok hmin hs hG (hQ M' hs) (t0 + 1) 1 (by omega) (by omega) (by omega)
      · refine go_iload 0 dX10_parts_226 rfl ?_
        refine go_iret dX10_parts_228 rfl rfl ⟨_, rfl, ?_⟩
        exact g0 (by omega) M' hs
    · refine go_iconst dX10_parts_80 (by decide) ?_
      refine go_istore (lv' := [(5, vI 0), (4, vI ((p : Nat) : Int)), (3, vI ((L : Nat) : Int)), (0, vR 279), (1, vI ((n : Nat) : Int)), (2, vI a)]) dX10_parts_81 (by decide) rfl ?_
      refine go_lv [0, 1, 2, 3, 4, 5] rfl ?_
      refine lp_X10_parts83 hL hn (by omega) (fun M2 hs2 hG2 => ?_) (L + 1) 0 (by omega) (by omega) M' hs hG
      refine gx_iinc (v := ((p + 1 : Nat) : Int)) (lv' := [(4, vI ((p + 1 : Nat) : Int)), (3, vI ((L : Nat) : Int)), (0, vR 279), (1, vI ((n : Nat) : Int)), (2, vI a)]) 0 dX10_parts_205 rfl (by omega) ⟨by omega, by omega⟩ (by decide) rfl ?_
      refine go_goto (tgt := 74) dX10_parts_208 rfl ?_
      refine go_lv [0, 1, 2, 3, 4] rfl ?_
      exact ih (p + 1) (by omega) (by omega) (by omega) M2 hs2 (hG2.row (by omega))

set_option maxHeartbeats 4000000 in
set_option maxRecDepth 100000 in
theorem lp_X10_parts42 {w L n : Nat} {a : Int} {M : inm} {Q : Int → Nat → rfm → inm → Prop} (hL : Lay10 M L) (hn : 1 ≤ n ∧ n ≤ 5 ∧ n ≤ L) (ha : a = 0 ∨ a = 1) (g0 : a = 0 → ∀ M' : inm, Sr M M' → Q (rPW (sumTo (fun j => sting (M 284 (j + 1)) (M 284 (j + 13)))) L n 0) 303 (PP w) M') (g1 : a = 1 → ∃ t0 : Nat, (1 ≤ t0 ∧ t0 ≤ L) ∧ ((sumTo (fun j => sting (M 284 (j + 1)) (M 284 (j + 13)))) t0 - (sumTo (fun j => sting (M 284 (j + 1)) (M 284 (j + 13)))) 0 ≤ (rPW (sumTo (fun j => sting (M 284 (j + 1)) (M 284 (j + 13)))) L n 0) ∧ (rPW (sumTo (fun j => sting (M 284 (j + 1)) (M 284 (j + 13)))) L (n - 1) t0) ≤ (rPW (sumTo (fun j => sting (M 284 (j + 1)) (M 284 (j + 13)))) L n 0)) ∧ (∀ x, 1 ≤ x → x < t0 → (rPW (sumTo (fun j => sting (M 284 (j + 1)) (M 284 (j + 13)))) L n 0) < (sumTo (fun j => sting (M 284 (j + 1)) (M 284 (j + 13)))) x - (sumTo (fun j => sting (M 284 (j + 1)) (M 284 (j + 13)))) 0 ∨ (rPW (sumTo (fun j => sting (M 284 (j + 1)) (M 284 (j + 13)))) L n 0) < (rPW (sumTo (fun j => sting (M 284 (j + 1)) (M 284 (j + 13)))) L (n - 1) x)) ∧ ∀ M' : inm, Sr M M' → Q ((t0 : Nat) : Int) 303 (PP w) M') : ∀ (d k : Nat), 78 < k + d → k ≤ 78 → Go S0 yX10_parts cX10_parts 9 3 0 0 (some .int) 42 [(4, vI ((k : Nat) : Int)), (3, vI ((L : Nat) : Int)), (0, vR 279), (1, vI ((n : Nat) : Int)), (2, vI a)] [] 303 (PP w) (ov M 298 k (fun _ => 1000000)) (fun v n P M => ∃ z, v = some (vI z) ∧ Q z n P M) := by
  have hL12 := hL.2.1
  intro d
  induction d with
  | zero => intro k h1 h2; exfalso; omega
  | succ d ih =>
    intro k h1 h2
    refine go_iload 0 dX10_parts_42 rfl ?_
    refine go_bipush dX10_parts_44 (by decide) (by decide) ?_
    refine go_icmp_ge (tgt := 64) dX10_parts_46 rfl (fun c1 => ?_) (fun c1 => ?_)
    · have hk : k = 78 := by omega
      subst hk
      refine go_lv [1, 2, 3, 4] rfl ?_
      refine go_aload_n 1 dX10_parts_64 rfl rfl ?_
      refine go_getR (r := 298) dX10_parts_65 lk10_68.get kd_279 (by omega) rfl (pp_279_35 w) ?_
      refine go_iload_n 0 dX10_parts_68 rfl rfl ?_
      refine go_iconst dX10_parts_69 (by decide) ?_
      refine gx_iastore L dX10_parts_70 kd_298 (by omega) ln_298 rfl (by omega) ?_
      refine go_iconst dX10_parts_71 (by decide) ?_
      refine go_istore (lv' := [(4, vI 1), (3, vI ((L : Nat) : Int)), (0, vR 279), (1, vI ((n : Nat) : Int)), (2, vI a)]) dX10_parts_72 (by decide) rfl ?_
      refine go_lv [0, 1, 2, 3, 4] rfl ?_
      exact lp_X10_parts74 hL hn ha g0 g1 (n + 1) 1 (by omega) (by omega) (by omega) _ (((Sr.rf M).ov (by omega)).up (by omega)) (TG.z hL.2.1)
    · refine go_aload_n 2 dX10_parts_49 rfl rfl ?_
      refine go_getR (r := 298) dX10_parts_50 lk10_68.get kd_279 (by omega) rfl (pp_279_35 w) ?_
      refine go_iload 0 dX10_parts_53 rfl ?_
      refine go_ldc dX10_parts_55 ik10_197 (by decide) ?_
      refine gx_iastore k dX10_parts_57 kd_298 (by omega) ln_298 rfl (by omega) ?_
      refine gx_iinc (v := ((k + 1 : Nat) : Int)) (lv' := [(4, vI ((k + 1 : Nat) : Int)), (3, vI ((L : Nat) : Int)), (0, vR 279), (1, vI ((n : Nat) : Int)), (2, vI a)]) 0 dX10_parts_58 rfl (by omega) ⟨by omega, by omega⟩ (by decide) rfl ?_
      refine go_goto (tgt := 42) dX10_parts_61 rfl ?_
      have e2 : (up2 (ov M 298 k (fun _ => 1000000)) 298 k 1000000) = (ov M 298 (k + 1) (fun _ => 1000000)) := by exact ov_s rfl
      rw [e2]
      exact ih (k + 1) (by omega) (by omega)

set_option maxHeartbeats 4000000 in
set_option maxRecDepth 100000 in
theorem ok_X10_parts_in {w L n : Nat} {a : Int} {M : inm} {Q : Int → Nat → rfm → inm → Prop} (hL : Lay10 M L) (hn : 1 ≤ n ∧ n ≤ 5 ∧ n ≤ L) (ha : a = 0 ∨ a = 1) (g0 : a = 0 → ∀ M' : inm, Sr M M' → Q (rPW (sumTo (fun j => sting (M 284 (j + 1)) (M 284 (j + 13)))) L n 0) 303 (PP w) M') (g1 : a = 1 → ∃ t0 : Nat, (1 ≤ t0 ∧ t0 ≤ L) ∧ ((sumTo (fun j => sting (M 284 (j + 1)) (M 284 (j + 13)))) t0 - (sumTo (fun j => sting (M 284 (j + 1)) (M 284 (j + 13)))) 0 ≤ (rPW (sumTo (fun j => sting (M 284 (j + 1)) (M 284 (j + 13)))) L n 0) ∧ (rPW (sumTo (fun j => sting (M 284 (j + 1)) (M 284 (j + 13)))) L (n - 1) t0) ≤ (rPW (sumTo (fun j => sting (M 284 (j + 1)) (M 284 (j + 13)))) L n 0)) ∧ (∀ x, 1 ≤ x → x < t0 → (rPW (sumTo (fun j => sting (M 284 (j + 1)) (M 284 (j + 13)))) L n 0) < (sumTo (fun j => sting (M 284 (j + 1)) (M 284 (j + 13)))) x - (sumTo (fun j => sting (M 284 (j + 1)) (M 284 (j + 13)))) 0 ∨ (rPW (sumTo (fun j => sting (M 284 (j + 1)) (M 284 (j + 13)))) L n 0) < (rPW (sumTo (fun j => sting (M 284 (j + 1)) (M 284 (j + 13)))) L (n - 1) x)) ∧ ∀ M' : inm, Sr M M' → Q ((t0 : Nat) : Int) 303 (PP w) M') : OkI yX10_parts cX10_parts 9 3 0 0 (some .int) [vR 279, vI ((n : Nat) : Int), vI a] 303 (PP w) M Q := by
  refine OkI.of (by decide +kernel) (by decide +kernel) (Nat.le_of_ble_eq_true rfl) ?_
  refine go_eq (lv' := [(0, vR 279), (1, vI ((n : Nat) : Int)), (2, vI a)]) rfl rfl rfl rfl rfl ?_
  refine go_iload_n 1 dX10_parts_0 rfl rfl ?_
  refine go_i2l dX10_parts_1 ?_
  refine go_lconst (z := 1) dX10_parts_2 (by decide) (by decide) ?_
  refine go_ldc2 dX10_parts_3 jk10_282 (by decide) ?_
  refine go_callSI (av := [vL ((n : Nat) : Int), vL 1, vL 5]) (st := []) (mc2 := 0) (ms2 := 0) dX10_parts_6 cw10_87 (by decide) rfl rfl (Nat.le_of_ble_eq_true rfl) rfl rfl (ok_X10_in (fun _ _ => ?_) (fun h => absurd ⟨by omega, by omega⟩ h))
  refine go_if_eq (tgt := 22) dX10_parts_9 rfl (fun c1 => ?_) (fun c1 => ?_)
  · exact absurd c1 (by decide)
  · refine go_iload_n 2 dX10_parts_12 rfl rfl ?_
    refine go_i2l dX10_parts_13 ?_
    refine go_lconst (z := 0) dX10_parts_14 (by decide) (by decide) ?_
    refine go_lconst (z := 1) dX10_parts_15 (by decide) (by decide) ?_
    refine go_callSI (av := [vL a, vL 0, vL 1]) (st := []) (mc2 := 0) (ms2 := 0) dX10_parts_16 cw10_87 (by decide) rfl rfl (Nat.le_of_ble_eq_true rfl) rfl rfl (ok_X10_in (fun _ _ => ?_) (fun h => absurd ⟨by omega, by omega⟩ h))
    refine go_if_ne (tgt := 25) dX10_parts_19 rfl (fun c2 => ?_) (fun c2 => ?_)
    · refine go_aload_n 0 dX10_parts_25 rfl rfl ?_
      refine go_getR (r := 284) dX10_parts_26 lk10_22.get kd_279 (by omega) rfl (pp_279_8 w) ?_
      refine go_iconst dX10_parts_29 (by decide) ?_
      refine gx_iaload (v := ((L : Nat) : Int)) 0 dX10_parts_30 kd_284 (by omega) ln_284 (by omega) (by omega) hL.1 ?_
      refine go_istore_n (lv' := [(3, vI ((L : Nat) : Int)), (0, vR 279), (1, vI ((n : Nat) : Int)), (2, vI a)]) dX10_parts_31 rfl (by decide) rfl ?_
      refine go_iload_n 0 dX10_parts_32 rfl rfl ?_
      refine go_iload_n 2 dX10_parts_33 rfl rfl ?_
      refine go_icmp_ge (tgt := 39) dX10_parts_34 rfl (fun c3 => ?_) (fun c3 => ?_)
      · refine go_iconst dX10_parts_39 (by decide) ?_
        refine go_istore (lv' := [(4, vI 0), (3, vI ((L : Nat) : Int)), (0, vR 279), (1, vI ((n : Nat) : Int)), (2, vI a)]) dX10_parts_40 (by decide) rfl ?_
        refine go_lv [0, 1, 2, 3, 4] rfl ?_
        refine go_m (M' := ov M 298 0 (fun _ => 1000000)) ov_0.symm ?_
        exact lp_X10_parts42 hL hn ha g0 g1 79 0 (by omega) (by omega)
      · exact absurd c3 (by omega)
    · exact absurd c2 (by decide)

set_option maxHeartbeats 4000000 in
set_option maxRecDepth 100000 in
theorem ok_X10_parts_out {w L : Nat} {k a : Int} {M : inm} {Q : Int → Nat → rfm → inm → Prop} (hL : Lay10 M L) (hk : ¬ ((1 ≤ k ∧ k ≤ 5 ∧ 0 ≤ a ∧ a ≤ 1) ∧ k ≤ (L : Int))) (h0 : ¬ (1 ≤ k ∧ k ≤ 5 ∧ 0 ≤ a ∧ a ≤ 1) → Q (-1000000002) 303 (PP w) M) (h1 : (1 ≤ k ∧ k ≤ 5 ∧ 0 ≤ a ∧ a ≤ 1) → (L : Int) < k → Q (-1) 303 (PP w) M) : OkI yX10_parts cX10_parts 9 3 0 0 (some .int) [vR 279, vI k, vI a] 303 (PP w) M Q := by
  refine OkI.of (by decide +kernel) (by decide +kernel) (Nat.le_of_ble_eq_true rfl) ?_
  refine go_eq (lv' := [(0, vR 279), (1, vI k), (2, vI a)]) rfl rfl rfl rfl rfl ?_
  refine go_iload_n 1 dX10_parts_0 rfl rfl ?_
  refine go_i2l dX10_parts_1 ?_
  refine go_lconst (z := 1) dX10_parts_2 (by decide) (by decide) ?_
  refine go_ldc2 dX10_parts_3 jk10_282 (by decide) ?_
  refine go_callSI (av := [vL k, vL 1, vL 5]) (st := []) (mc2 := 0) (ms2 := 0) dX10_parts_6 cw10_87 (by decide) rfl rfl (Nat.le_of_ble_eq_true rfl) rfl rfl (ok_X10_in (fun i1 i2 => ?_) (fun i3 => ?_))
  · skip
    refine go_if_eq (tgt := 22) dX10_parts_9 rfl (fun c4 => ?_) (fun c4 => ?_)
    · exact absurd c4 (by decide)
    · refine go_iload_n 2 dX10_parts_12 rfl rfl ?_
      refine go_i2l dX10_parts_13 ?_
      refine go_lconst (z := 0) dX10_parts_14 (by decide) (by decide) ?_
      refine go_lconst (z := 1) dX10_parts_15 (by decide) (by decide) ?_
      refine go_callSI (av := [vL a, vL 0, vL 1]) (st := []) (mc2 := 0) (ms2 := 0) dX10_parts_16 cw10_87 (by decide) rfl rfl (Nat.le_of_ble_eq_true rfl) rfl rfl (ok_X10_in (fun i5 i6 => ?_) (fun i7 => ?_))
      · skip
        refine go_if_ne (tgt := 25) dX10_parts_19 rfl (fun c8 => ?_) (fun c8 => ?_)
        · refine go_aload_n 0 dX10_parts_25 rfl rfl ?_
          refine go_getR (r := 284) dX10_parts_26 lk10_22.get kd_279 (by omega) rfl (pp_279_8 w) ?_
          refine go_iconst dX10_parts_29 (by decide) ?_
          refine gx_iaload (v := ((L : Nat) : Int)) 0 dX10_parts_30 kd_284 (by omega) ln_284 (by omega) (by omega) hL.1 ?_
          refine go_istore_n (lv' := [(3, vI ((L : Nat) : Int)), (0, vR 279), (1, vI k), (2, vI a)]) dX10_parts_31 rfl (by decide) rfl ?_
          refine go_iload_n 0 dX10_parts_32 rfl rfl ?_
          refine go_iload_n 2 dX10_parts_33 rfl rfl ?_
          refine go_icmp_ge (tgt := 39) dX10_parts_34 rfl (fun c9 => ?_) (fun c9 => ?_)
          · exfalso; omega
          · refine go_iconst dX10_parts_37 (by decide) ?_
            refine go_iret dX10_parts_38 rfl rfl ⟨_, rfl, ?_⟩
            first | exact h0 (by omega) | exact h1 (by omega) (by omega)
        · exact absurd c8 (by decide)
      · skip
        refine go_if_ne (tgt := 25) dX10_parts_19 rfl (fun c10 => ?_) (fun c10 => ?_)
        · exact absurd c10 (by decide)
        · refine go_ldc dX10_parts_22 ik10_96 (by decide) ?_
          refine go_iret dX10_parts_24 rfl rfl ⟨_, rfl, ?_⟩
          first | exact h0 (by omega) | exact h1 (by omega) (by omega)
  · skip
    refine go_if_eq (tgt := 22) dX10_parts_9 rfl (fun c11 => ?_) (fun c11 => ?_)
    · refine go_ldc dX10_parts_22 ik10_96 (by decide) ?_
      refine go_iret dX10_parts_24 rfl rfl ⟨_, rfl, ?_⟩
      first | exact h0 (by omega) | exact h1 (by omega) (by omega)
    · exact absurd c11 (by decide)

