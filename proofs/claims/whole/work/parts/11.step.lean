/-! ===== rows of the judgement: an instruction each ===== -/
theorem bm32 {z : Int} (h : inR z) : Int.bmod z (2 ^ 32) = z := by
  have h1 := h.1
  have h2 := h.2
  rw [Int.bmod_def]
  split <;> omega
theorem bm64 {z : Int} (h : inL z) : Int.bmod z (2 ^ 64) = z := by
  have h1 := h.1
  have h2 := h.2
  rw [Int.bmod_def]
  split <;> omega
theorem ol_of {z : Int} {x : Int64} (h : x.toInt = z) : x = Int64.ofInt z := by
  rw [← h, Int64.ofInt_toInt]
theorem oi_nat (z : Int) (h : 0 ≤ z) : Int32.ofInt z = nI z.toNat := by
  obtain ⟨k, rfl⟩ := Int.eq_ofNat_of_zero_le h
  show Int32.ofInt (k : Int) = Int32.ofNat k
  exact Int32.ofInt_eq_ofNat
theorem oi_div {a b : Int} (ha : inR a) (hb : inR b) (h0 : 0 ≤ a) (h1 : 0 < b) : Int32.ofInt a / Int32.ofInt b = Int32.ofInt (a / b) := by
  apply oi_of
  rw [Int32.toInt_div, oi_toInt ha, oi_toInt hb, Int.tdiv_eq_ediv_of_nonneg h0]
  have h2 := Int.ediv_le_self b h0
  have h3 : 0 ≤ a / b := Int.ediv_nonneg h0 (by omega)
  exact bm32 ⟨by omega, by have := ha.2; omega⟩
theorem ol_div {a b : Int} (ha : inL a) (hb : inL b) (h0 : 0 ≤ a) (h1 : 0 < b) : Int64.ofInt a / Int64.ofInt b = Int64.ofInt (a / b) := by
  apply ol_of
  rw [Int64.toInt_div, ol_toInt ha, ol_toInt hb, Int.tdiv_eq_ediv_of_nonneg h0]
  have h2 := Int.ediv_le_self b h0
  have h3 : 0 ≤ a / b := Int.ediv_nonneg h0 (by omega)
  exact bm64 ⟨by omega, by have := ha.2; omega⟩
theorem emod_eq (a b : Int) : a - a / b * b = a % b := by
  have := Int.mul_ediv_add_emod a b
  rw [Int.mul_comm] at this
  omega
theorem oi_rem {a b : Int} (ha : inR a) (hb : inR b) (h0 : 0 ≤ a) (h1 : 0 < b) : Int32.ofInt a - Int32.ofInt a / Int32.ofInt b * Int32.ofInt b = Int32.ofInt (a % b) := by
  rw [oi_div ha hb h0 h1, ← Int32.ofInt_mul, ← Int32.ofInt_sub, emod_eq]
theorem ol_rem {a b : Int} (ha : inL a) (hb : inL b) (h0 : 0 ≤ a) (h1 : 0 < b) : Int64.ofInt a - Int64.ofInt a / Int64.ofInt b * Int64.ofInt b = Int64.ofInt (a % b) := by
  rw [ol_div ha hb h0 h1, ← Int64.ofInt_mul, ← Int64.ofInt_sub, emod_eq]
theorem oi_shl1 {k : Int} (h0 : 0 ≤ k) (h1 : k ≤ 30) : Int32.ofInt 1 <<< (Int32.ofInt k &&& 31) = Int32.ofInt ((2 ^ k.toNat : Nat) : Int) := by
  obtain ⟨j, rfl⟩ := Int.eq_ofNat_of_zero_le h0
  have h : ∀ j : Nat, j < 31 → Int32.ofInt 1 <<< (Int32.ofInt (j : Int) &&& 31) = Int32.ofInt ((2 ^ j : Nat) : Int) := by decide +kernel
  exact h j (by omega)
theorem oi_or {a b : Int} (ha : 0 ≤ a) (hb : 0 ≤ b) : Int32.ofInt a ||| Int32.ofInt b = Int32.ofInt ((a.toNat ||| b.toNat : Nat) : Int) := by
  rw [oi_nat a ha, oi_nat b hb, oi_nat _ (Int.natCast_nonneg _), Int.toNat_natCast]
  apply Int32.toBitVec_inj.1
  show BitVec.ofNat 32 _ ||| BitVec.ofNat 32 _ = BitVec.ofNat 32 _
  apply BitVec.eq_of_getLsbD_eq
  intro i hi
  simp [hi]
theorem oi_and {a b : Int} (ha : 0 ≤ a) (hb : 0 ≤ b) : Int32.ofInt a &&& Int32.ofInt b = Int32.ofInt ((a.toNat &&& b.toNat : Nat) : Int) := by
  rw [oi_nat a ha, oi_nat b hb, oi_nat _ (Int.natCast_nonneg _), Int.toNat_natCast]
  apply Int32.toBitVec_inj.1
  show BitVec.ofNat 32 _ &&& BitVec.ofNat 32 _ = BitVec.ofNat 32 _
  apply BitVec.eq_of_getLsbD_eq
  intro i hi
  simp [hi]
theorem or_in {a b : Int} (ha : inR a) (hb : inR b) (h0 : 0 ≤ a) (h1 : 0 ≤ b) : inR ((a.toNat ||| b.toNat : Nat) : Int) := by
  have h2 : a.toNat ||| b.toNat < 2 ^ 31 := Nat.or_lt_two_pow (by have := ha.2; omega) (by have := hb.2; omega)
  exact ⟨by omega, by omega⟩
theorem and_in {a b : Int} (ha : inR a) (h0 : 0 ≤ a) : inR ((a.toNat &&& b.toNat : Nat) : Int) := by
  have h2 : a.toNat &&& b.toNat ≤ a.toNat := Nat.and_le_left
  have := ha.2
  exact ⟨by omega, by omega⟩
theorem oi_bv (a : Int) : (Int32.ofInt a).toBitVec.toNat = (a % 4294967296).toNat := by
  show (BitVec.ofInt 32 a).toNat = _
  rw [BitVec.toNat_ofInt]
  rfl
theorem oi_mask {a m : Int} (k : Nat) (hm : (Int32.ofInt m).toBitVec.toNat = 2 ^ k - 1) (hk : k ≤ 31) : Int32.ofInt a &&& Int32.ofInt m = Int32.ofInt (a % ((2 ^ k : Nat) : Int)) := by
  rw [pk_and _ k hm, oi_bv, oi_nat _ (Int.emod_nonneg _ (by have : 0 < 2 ^ k := Nat.two_pow_pos k; omega))]
  congr 1
  have h1 : 0 ≤ a % 4294967296 := Int.emod_nonneg _ (by decide)
  have h2 : a % ((2 ^ k : Nat) : Int) = (a % 4294967296) % ((2 ^ k : Nat) : Int) := by
    rw [Int.emod_emod_of_dvd]
    have : (4294967296 : Int) = ((2 ^ 32 : Nat) : Int) := by decide
    rw [this]
    exact Int.ofNat_dvd.mpr (Nat.pow_dvd_pow 2 (by omega))
  rw [h2]
  obtain ⟨j, hj⟩ := Int.eq_ofNat_of_zero_le h1
  rw [hj]
  rfl
theorem oi_shr {a k : Int} (ha : inR a) (h0 : 0 ≤ a) (h1 : 0 ≤ k) (h2 : k ≤ 31) : Int32.ofInt a >>> (Int32.ofInt k &&& 31) = Int32.ofInt (a / ((2 ^ k.toNat : Nat) : Int)) := by
  have hs : ∀ j : Nat, j < 32 → ((Int32.ofInt (j : Int) &&& 31).toBitVec.smod 32).toNat = j := by decide +kernel
  obtain ⟨j, rfl⟩ := Int.eq_ofNat_of_zero_le h1
  obtain ⟨i, rfl⟩ := Int.eq_ofNat_of_zero_le h0
  rw [oi_nat _ (Int.natCast_nonneg i), Int.toNat_natCast, Int.toNat_natCast, pk_shrN (by have := ha.2; omega) _ j (hs j (by omega)), ← Int.natCast_ediv, oi_nat _ (Int.natCast_nonneg (i / 2 ^ j))]
  rfl
theorem oi_ushr {a k : Int} (ha : inR a) (h0 : 0 ≤ a) (h1 : 0 ≤ k) (h2 : k ≤ 31) : ((Int32.ofInt a).toUInt32 >>> ((Int32.ofInt k).toUInt32 &&& Int32.toUInt32 31)).toInt32 = Int32.ofInt (a / ((2 ^ k.toNat : Nat) : Int)) := by
  have hs : ∀ j : Nat, j < 32 → (((Int32.ofInt (j : Int)).toUInt32 &&& Int32.toUInt32 31).toBitVec % 32).toNat = j := by decide +kernel
  obtain ⟨j, rfl⟩ := Int.eq_ofNat_of_zero_le h1
  obtain ⟨i, rfl⟩ := Int.eq_ofNat_of_zero_le h0
  rw [oi_nat _ (Int.natCast_nonneg i), Int.toNat_natCast, Int.toNat_natCast, pk_ushrN (by have := ha.2; omega) _ j (hs j (by omega)), ← Int.natCast_ediv, oi_nat _ (Int.natCast_nonneg (i / 2 ^ j))]
  rfl
theorem shr_in {a : Int} (ha : inR a) (h0 : 0 ≤ a) (d : Nat) : inR (a / (d : Int)) := by
  have h2 := Int.ediv_le_self (d : Int) h0
  have h3 : 0 ≤ a / (d : Int) := Int.ediv_nonneg h0 (by omega)
  have := ha.2
  exact ⟨by omega, by omega⟩
theorem oi_l {a : Int} (h : inR a) : (Int32.ofInt a).toInt64 = Int64.ofInt a := by
  apply ol_of
  rw [Int32.toInt_toInt64, oi_toInt h]
theorem ol_i {a : Int} (h : inL a) : (Int64.ofInt a).toInt32 = Int32.ofInt a := by
  first
    | exact Int64.toInt32_ofInt a
    | (apply Int32.toInt_inj.mp; rw [Int64.toInt_toInt32, ol_toInt h, Int32.toInt_ofInt])
def lcm (a b : Int) : Int := if b < a then 1 else if a = b then 0 else -1
theorem ol_cmp {a b : Int} (ha : inL a) (hb : inL b) : lg_cmp (Int64.ofInt a) (Int64.ofInt b) = Int32.ofInt (lcm a b) := by
  unfold lg_cmp lcm
  simp only [gt_iff_lt, Int64.lt_iff_toInt_lt, ← Int64.toInt_inj, ol_toInt ha, ol_toInt hb]
  split
  · rfl
  · split <;> rfl
theorem lcm_in (a b : Int) : inR (lcm a b) := by
  unfold lcm
  split
  · decide
  · split <;> decide
def isL (v : PV) : Bool := match v with
  | .inr (.inl _) => true
  | _ => false
theorem rv_cat (base b : Nat) (v : PV) : ((rv base b v).category == 2) = isL v := by
  match v with
  | .inl _ => rfl
  | .inr (.inl _) => rfl
  | .inr (.inr (.inl _)) => rfl
  | .inr (.inr (.inr _)) => rfl
theorem lv_filt (lv : List (Nat × PV)) (base b i : Nat) : (lv.map (fun q => (q.1, rv base b q.2))).filter (fun q => !(q.1 == i) && !(q.1 + 1 == i && q.2.category == 2)) = (lv.filter (fun q => !(q.1 == i) && !(q.1 + 1 == i && isL q.2))).map (fun q => (q.1, rv base b q.2)) := by
  rw [List.filter_map]
  congr 2
  funext q
  simp only [Function.comp, rv_cat]
theorem lv_filtL (lv : List (Nat × PV)) (base b i : Nat) : (lv.map (fun q => (q.1, rv base b q.2))).filter (fun q => !(q.1 == i) && (!(q.1 == i + 1) && !(q.1 + 1 == i && q.2.category == 2))) = (lv.filter (fun q => !(q.1 == i) && (!(q.1 == i + 1) && !(q.1 + 1 == i && isL q.2)))).map (fun q => (q.1, rv base b q.2)) := by
  rw [List.filter_map]
  congr 2
  funext q
  simp only [Function.comp, rv_cat]
theorem ok_filt {lv lv' : List (Nat × PV)} {i : Nat} {v : PV} {f : Nat × PV → Bool} (h : (i, v) :: lv.filter f = lv') (ov : okV v) (ol : ∀ q ∈ lv, okV q.2) : ∀ q ∈ lv', okV q.2 := fun q hq => by
  rw [← h] at hq
  rcases List.mem_cons.mp hq with rfl | hq
  · exact ov
  · exact ol q (List.mem_filter.mp hq).1
section GoStep
variable {S : Nat × (Nat → Int32)} {y : MethodName} {cc : ByteArray} {nL t mc ms : Nat} {ret : Option FieldType} {pc : Nat} {lv : List (Nat × PV)} {st : List PV} {n : Nat} {P : rfm} {M : inm} {Q : Post}
theorem go_iconst {z : Int} (d : decode cc pc = .ok (.iconst z, 1)) (hz : inR z) (k : Go S y cc nL t mc ms ret (pc + 1) lv (vI z :: st) n P M Q) : Go S y cc nL t mc ms ret pc lv st n P M Q := by
  intro p l e R s m args below meth c H locs cells slots base b D cy ls Qf hy hl ol os
  exact lv_iconst hy.1.1 hy.1.2.1 d rfl (k _ _ _ _ _ _ _ _ _ _ _ _ _ _ _ _ _ _ _ _ hy hl ol (ok_cons hz os))
theorem go_bipush {z : Int} (d : decode cc pc = .ok (.bipush z, 2)) (hv : (Int8.ofInt z).toInt32 = Int32.ofInt z) (hz : inR z) (k : Go S y cc nL t mc ms ret (pc + 2) lv (vI z :: st) n P M Q) : Go S y cc nL t mc ms ret pc lv st n P M Q := by
  intro p l e R s m args below meth c H locs cells slots base b D cy ls Qf hy hl ol os
  exact lv_bipush hy.1.1 hy.1.2.1 d hv (k _ _ _ _ _ _ _ _ _ _ _ _ _ _ _ _ _ _ _ _ hy hl ol (ok_cons hz os))
theorem go_sipush {z : Int} (d : decode cc pc = .ok (.sipush z, 3)) (hv : (Int16.ofInt z).toInt32 = Int32.ofInt z) (hz : inR z) (k : Go S y cc nL t mc ms ret (pc + 3) lv (vI z :: st) n P M Q) : Go S y cc nL t mc ms ret pc lv st n P M Q := by
  intro p l e R s m args below meth c H locs cells slots base b D cy ls Qf hy hl ol os
  exact lv_sipush hy.1.1 hy.1.2.1 d hv (k _ _ _ _ _ _ _ _ _ _ _ _ _ _ _ _ _ _ _ _ hy hl ol (ok_cons hz os))
theorem go_lconst {q : Fin 2} {z : Int} (d : decode cc pc = .ok (.lconst q, 1)) (hv : Int64.ofNat (q : Nat) = Int64.ofInt z) (hz : inL z) (k : Go S y cc nL t mc ms ret (pc + 1) lv (vL z :: st) n P M Q) : Go S y cc nL t mc ms ret pc lv st n P M Q := by
  intro p l e R s m args below meth c H locs cells slots base b D cy ls Qf hy hl ol os
  exact lv_lconst hy.1.1 hy.1.2.1 d hv (k _ _ _ _ _ _ _ _ _ _ _ _ _ _ _ _ _ _ _ _ hy hl ol (ok_cons hz os))
theorem go_ldc {idx : Nat} {z : Int} (d : decode cc pc = .ok (.ldc idx, 2)) (hc : Cond.constant y.cls idx (Int32.ofInt z) ∈ TB) (hz : inR z) (k : Go S y cc nL t mc ms ret (pc + 2) lv (vI z :: st) n P M Q) : Go S y cc nL t mc ms ret pc lv st n P M Q := by
  intro p l e R s m args below meth c H locs cells slots base b D cy ls Qf hy hl ol os
  exact lv_ldc hy.1.1 hy.1.2.1 hy.1.2.2.2.1 (hy.1.2.2.2.2.1 _ hc) d (k _ _ _ _ _ _ _ _ _ _ _ _ _ _ _ _ _ _ _ _ hy hl ol (ok_cons hz os))
theorem go_ldcw {idx : Nat} {z : Int} (d : decode cc pc = .ok (.ldc_w idx, 3)) (hc : Cond.constant y.cls idx (Int32.ofInt z) ∈ TB) (hz : inR z) (k : Go S y cc nL t mc ms ret (pc + 3) lv (vI z :: st) n P M Q) : Go S y cc nL t mc ms ret pc lv st n P M Q := by
  intro p l e R s m args below meth c H locs cells slots base b D cy ls Qf hy hl ol os
  exact lv_ldcw hy.1.1 hy.1.2.1 hy.1.2.2.2.1 (hy.1.2.2.2.2.1 _ hc) d (k _ _ _ _ _ _ _ _ _ _ _ _ _ _ _ _ _ _ _ _ hy hl ol (ok_cons hz os))
theorem go_ldc2 {idx : Nat} {z : Int} (d : decode cc pc = .ok (.ldc2_w idx, 3)) (hc : Cond.constantLong y.cls idx (Int64.ofInt z) ∈ TB) (hz : inL z) (k : Go S y cc nL t mc ms ret (pc + 3) lv (vL z :: st) n P M Q) : Go S y cc nL t mc ms ret pc lv st n P M Q := by
  intro p l e R s m args below meth c H locs cells slots base b D cy ls Qf hy hl ol os
  exact lv_ldc2 hy.1.1 hy.1.2.1 hy.1.2.2.2.1 (hy.1.2.2.2.2.1 _ hc) d (k _ _ _ _ _ _ _ _ _ _ _ _ _ _ _ _ _ _ _ _ hy hl ol (ok_cons hz os))
theorem go_iload_n {q : Fin 4} {i : Nat} {z : Int} (j : Nat) (d : decode cc pc = .ok (.iload_n q, 1)) (hi : (q : Nat) = i) (h : lv[j]? = some (i, vI z)) (k : Go S y cc nL t mc ms ret (pc + 1) lv (vI z :: st) n P M Q) : Go S y cc nL t mc ms ret pc lv st n P M Q := by
  intro p l e R s m args below meth c H locs cells slots base b D cy ls Qf hy hl ol os
  exact lv_iload_n hy.1.1 hy.1.2.1 d hi (lv_at hl j (lvm_at h)) (k _ _ _ _ _ _ _ _ _ _ _ _ _ _ _ _ _ _ _ _ hy hl ol (ok_cons (ok_at ol h) os))
theorem go_iload {i : Nat} {z : Int} (j : Nat) (d : decode cc pc = .ok (.iload i, 2)) (h : lv[j]? = some (i, vI z)) (k : Go S y cc nL t mc ms ret (pc + 2) lv (vI z :: st) n P M Q) : Go S y cc nL t mc ms ret pc lv st n P M Q := by
  intro p l e R s m args below meth c H locs cells slots base b D cy ls Qf hy hl ol os
  exact lv_iload hy.1.1 hy.1.2.1 d (lv_at hl j (lvm_at h)) (k _ _ _ _ _ _ _ _ _ _ _ _ _ _ _ _ _ _ _ _ hy hl ol (ok_cons (ok_at ol h) os))
theorem go_lload_n {q : Fin 4} {i : Nat} {z : Int} (j : Nat) (d : decode cc pc = .ok (.lload_n q, 1)) (hi : (q : Nat) = i) (h : lv[j]? = some (i, vL z)) (k : Go S y cc nL t mc ms ret (pc + 1) lv (vL z :: st) n P M Q) : Go S y cc nL t mc ms ret pc lv st n P M Q := by
  intro p l e R s m args below meth c H locs cells slots base b D cy ls Qf hy hl ol os
  exact lv_lload_n hy.1.1 hy.1.2.1 d hi (lv_at hl j (lvm_at h)) (k _ _ _ _ _ _ _ _ _ _ _ _ _ _ _ _ _ _ _ _ hy hl ol (ok_cons (ok_at ol h) os))
theorem go_lload {i : Nat} {z : Int} (j : Nat) (d : decode cc pc = .ok (.lload i, 2)) (h : lv[j]? = some (i, vL z)) (k : Go S y cc nL t mc ms ret (pc + 2) lv (vL z :: st) n P M Q) : Go S y cc nL t mc ms ret pc lv st n P M Q := by
  intro p l e R s m args below meth c H locs cells slots base b D cy ls Qf hy hl ol os
  exact lv_lload hy.1.1 hy.1.2.1 d (lv_at hl j (lvm_at h)) (k _ _ _ _ _ _ _ _ _ _ _ _ _ _ _ _ _ _ _ _ hy hl ol (ok_cons (ok_at ol h) os))
theorem go_aload_n {q : Fin 4} {i : Nat} {z : Nat} (j : Nat) (d : decode cc pc = .ok (.aload_n q, 1)) (hi : (q : Nat) = i) (h : lv[j]? = some (i, vR z)) (k : Go S y cc nL t mc ms ret (pc + 1) lv (vR z :: st) n P M Q) : Go S y cc nL t mc ms ret pc lv st n P M Q := by
  intro p l e R s m args below meth c H locs cells slots base b D cy ls Qf hy hl ol os
  exact lv_aload_n hy.1.1 hy.1.2.1 d hi (lv_at hl j (lvm_at h)) (k _ _ _ _ _ _ _ _ _ _ _ _ _ _ _ _ _ _ _ _ hy hl ol (ok_cons (ok_at ol h) os))
theorem go_aload {i : Nat} {z : Nat} (j : Nat) (d : decode cc pc = .ok (.aload i, 2)) (h : lv[j]? = some (i, vR z)) (k : Go S y cc nL t mc ms ret (pc + 2) lv (vR z :: st) n P M Q) : Go S y cc nL t mc ms ret pc lv st n P M Q := by
  intro p l e R s m args below meth c H locs cells slots base b D cy ls Qf hy hl ol os
  exact lv_aload hy.1.1 hy.1.2.1 d (lv_at hl j (lvm_at h)) (k _ _ _ _ _ _ _ _ _ _ _ _ _ _ _ _ _ _ _ _ hy hl ol (ok_cons (ok_at ol h) os))
theorem go_aload_nS {q : Fin 4} {i : Nat} (j : Nat) (d : decode cc pc = .ok (.aload_n q, 1)) (hi : (q : Nat) = i) (h : lv[j]? = some (i, vS)) (k : Go S y cc nL t mc ms ret (pc + 1) lv (vS :: st) n P M Q) : Go S y cc nL t mc ms ret pc lv st n P M Q := by
  intro p l e R s m args below meth c H locs cells slots base b D cy ls Qf hy hl ol os
  exact lv_aload_n hy.1.1 hy.1.2.1 d hi (lv_at hl j (lvm_at h)) (k _ _ _ _ _ _ _ _ _ _ _ _ _ _ _ _ _ _ _ _ hy hl ol (ok_cons (ok_at ol h) os))
theorem go_istore_n {q : Fin 4} {i : Nat} {z : Int} {lv' : List (Nat × PV)} (d : decode cc pc = .ok (.istore_n q, 1)) (hi : (q : Nat) = i) (hn : i < nL) (h : (i, vI z) :: lv.filter (fun q => !(q.1 == i) && !(q.1 + 1 == i && isL q.2)) = lv') (k : Go S y cc nL t mc ms ret (pc + 1) lv' st n P M Q) : Go S y cc nL t mc ms ret pc lv (vI z :: st) n P M Q := by
  intro p l e R s m args below meth c H locs cells slots base b D cy ls Qf hy hl ol os
  refine lv_istore_n (lv' := lv'.map (fun q => (q.1, rv base b q.2))) hy.1.1 hy.1.2.1 d hi hl hn ?_ (fun ls' hl' => k _ _ _ _ _ _ _ _ _ _ _ _ _ _ _ _ _ _ _ _ hy hl' (ok_filt h (ok_head os) ol) (ok_tail os))
  rw [← h, List.map_cons, lv_filt]
  rfl
theorem go_istore {i : Nat} {z : Int} {lv' : List (Nat × PV)} (d : decode cc pc = .ok (.istore i, 2)) (hn : i < nL) (h : (i, vI z) :: lv.filter (fun q => !(q.1 == i) && !(q.1 + 1 == i && isL q.2)) = lv') (k : Go S y cc nL t mc ms ret (pc + 2) lv' st n P M Q) : Go S y cc nL t mc ms ret pc lv (vI z :: st) n P M Q := by
  intro p l e R s m args below meth c H locs cells slots base b D cy ls Qf hy hl ol os
  refine lv_istore (lv' := lv'.map (fun q => (q.1, rv base b q.2))) hy.1.1 hy.1.2.1 d hl hn ?_ (fun ls' hl' => k _ _ _ _ _ _ _ _ _ _ _ _ _ _ _ _ _ _ _ _ hy hl' (ok_filt h (ok_head os) ol) (ok_tail os))
  rw [← h, List.map_cons, lv_filt]
  rfl
theorem go_astore_n {q : Fin 4} {i : Nat} {z : Nat} {lv' : List (Nat × PV)} (d : decode cc pc = .ok (.astore_n q, 1)) (hi : (q : Nat) = i) (hn : i < nL) (h : (i, vR z) :: lv.filter (fun q => !(q.1 == i) && !(q.1 + 1 == i && isL q.2)) = lv') (k : Go S y cc nL t mc ms ret (pc + 1) lv' st n P M Q) : Go S y cc nL t mc ms ret pc lv (vR z :: st) n P M Q := by
  intro p l e R s m args below meth c H locs cells slots base b D cy ls Qf hy hl ol os
  refine lv_astore_n (lv' := lv'.map (fun q => (q.1, rv base b q.2))) hy.1.1 hy.1.2.1 d hi hl hn ?_ (fun ls' hl' => k _ _ _ _ _ _ _ _ _ _ _ _ _ _ _ _ _ _ _ _ hy hl' (ok_filt h (ok_head os) ol) (ok_tail os))
  rw [← h, List.map_cons, lv_filt]
  rfl
theorem go_astore {i : Nat} {z : Nat} {lv' : List (Nat × PV)} (d : decode cc pc = .ok (.astore i, 2)) (hn : i < nL) (h : (i, vR z) :: lv.filter (fun q => !(q.1 == i) && !(q.1 + 1 == i && isL q.2)) = lv') (k : Go S y cc nL t mc ms ret (pc + 2) lv' st n P M Q) : Go S y cc nL t mc ms ret pc lv (vR z :: st) n P M Q := by
  intro p l e R s m args below meth c H locs cells slots base b D cy ls Qf hy hl ol os
  refine lv_astore (lv' := lv'.map (fun q => (q.1, rv base b q.2))) hy.1.1 hy.1.2.1 d hl hn ?_ (fun ls' hl' => k _ _ _ _ _ _ _ _ _ _ _ _ _ _ _ _ _ _ _ _ hy hl' (ok_filt h (ok_head os) ol) (ok_tail os))
  rw [← h, List.map_cons, lv_filt]
  rfl
theorem go_lstore_n {q : Fin 4} {i : Nat} {z : Int} {lv' : List (Nat × PV)} (d : decode cc pc = .ok (.lstore_n q, 1)) (hi : (q : Nat) = i) (hn : i + 1 < nL) (h : (i, vL z) :: lv.filter (fun q => !(q.1 == i) && (!(q.1 == i + 1) && !(q.1 + 1 == i && isL q.2))) = lv') (k : Go S y cc nL t mc ms ret (pc + 1) lv' st n P M Q) : Go S y cc nL t mc ms ret pc lv (vL z :: st) n P M Q := by
  intro p l e R s m args below meth c H locs cells slots base b D cy ls Qf hy hl ol os
  refine lv_lstore_n (lv' := lv'.map (fun q => (q.1, rv base b q.2))) hy.1.1 hy.1.2.1 d hi hl hn ?_ (fun ls' hl' => k _ _ _ _ _ _ _ _ _ _ _ _ _ _ _ _ _ _ _ _ hy hl' (ok_filt h (ok_head os) ol) (ok_tail os))
  rw [← h, List.map_cons, lv_filtL]
  rfl
theorem go_lstore {i : Nat} {z : Int} {lv' : List (Nat × PV)} (d : decode cc pc = .ok (.lstore i, 2)) (hn : i + 1 < nL) (h : (i, vL z) :: lv.filter (fun q => !(q.1 == i) && (!(q.1 == i + 1) && !(q.1 + 1 == i && isL q.2))) = lv') (k : Go S y cc nL t mc ms ret (pc + 2) lv' st n P M Q) : Go S y cc nL t mc ms ret pc lv (vL z :: st) n P M Q := by
  intro p l e R s m args below meth c H locs cells slots base b D cy ls Qf hy hl ol os
  refine lv_lstore (lv' := lv'.map (fun q => (q.1, rv base b q.2))) hy.1.1 hy.1.2.1 d hl hn ?_ (fun ls' hl' => k _ _ _ _ _ _ _ _ _ _ _ _ _ _ _ _ _ _ _ _ hy hl' (ok_filt h (ok_head os) ol) (ok_tail os))
  rw [← h, List.map_cons, lv_filtL]
  rfl
theorem go_iinc {i : Nat} {z dz : Int} {lv' : List (Nat × PV)} (j : Nat) (d : decode cc pc = .ok (.iinc i dz, 3)) (hj : lv[j]? = some (i, vI z)) (hz : inR (z + dz)) (hn : i < nL) (h : (i, vI (z + dz)) :: lv.filter (fun q => !(q.1 == i) && !(q.1 + 1 == i && isL q.2)) = lv') (k : Go S y cc nL t mc ms ret (pc + 3) lv' st n P M Q) : Go S y cc nL t mc ms ret pc lv st n P M Q := by
  intro p l e R s m args below meth c H locs cells slots base b D cy ls Qf hy hl ol os
  refine lv_iinc (lv' := lv'.map (fun q => (q.1, rv base b q.2))) (v := Int32.ofInt (z + dz)) hy.1.1 hy.1.2.1 d hl (lvm_at hj) (Int32.ofInt_add ..).symm hn ?_ (fun ls' hl' => k _ _ _ _ _ _ _ _ _ _ _ _ _ _ _ _ _ _ _ _ hy hl' (ok_filt h hz ol) os)
  rw [← h, List.map_cons, lv_filt]
  rfl
theorem go_iadd {x z : Int} (d : decode cc pc = .ok (.iadd, 1)) (h : inR (x + z)) (k : Go S y cc nL t mc ms ret (pc + 1) lv (vI (x + z) :: st) n P M Q) : Go S y cc nL t mc ms ret pc lv (vI z :: vI x :: st) n P M Q := by
  intro p l e R s m args below meth c H locs cells slots base b D cy ls Qf hy hl ol os
  have hz : inR z := ok_head os
  have hx : inR x := ok_head (ok_tail os)
  refine lv_iadd hy.1.1 hy.1.2.1 d ?_
  rw [← Int32.ofInt_add]
  exact k _ _ _ _ _ _ _ _ _ _ _ _ _ _ _ _ _ _ _ _ hy hl ol (ok_cons (v := vI (x + z)) h (ok_tail (ok_tail os)))
theorem go_isub {x z : Int} (d : decode cc pc = .ok (.isub, 1)) (h : inR (x - z)) (k : Go S y cc nL t mc ms ret (pc + 1) lv (vI (x - z) :: st) n P M Q) : Go S y cc nL t mc ms ret pc lv (vI z :: vI x :: st) n P M Q := by
  intro p l e R s m args below meth c H locs cells slots base b D cy ls Qf hy hl ol os
  have hz : inR z := ok_head os
  have hx : inR x := ok_head (ok_tail os)
  refine lv_isub hy.1.1 hy.1.2.1 d ?_
  rw [← Int32.ofInt_sub]
  exact k _ _ _ _ _ _ _ _ _ _ _ _ _ _ _ _ _ _ _ _ hy hl ol (ok_cons (v := vI (x - z)) h (ok_tail (ok_tail os)))
theorem go_imul {x z : Int} (d : decode cc pc = .ok (.imul, 1)) (h : inR (x * z)) (k : Go S y cc nL t mc ms ret (pc + 1) lv (vI (x * z) :: st) n P M Q) : Go S y cc nL t mc ms ret pc lv (vI z :: vI x :: st) n P M Q := by
  intro p l e R s m args below meth c H locs cells slots base b D cy ls Qf hy hl ol os
  have hz : inR z := ok_head os
  have hx : inR x := ok_head (ok_tail os)
  refine lv_imul hy.1.1 hy.1.2.1 d ?_
  rw [← Int32.ofInt_mul]
  exact k _ _ _ _ _ _ _ _ _ _ _ _ _ _ _ _ _ _ _ _ hy hl ol (ok_cons (v := vI (x * z)) h (ok_tail (ok_tail os)))
def wr (z : Int) : Int := Int.bmod z 4294967296
theorem wr_in (z : Int) : inR (wr z) := by
  unfold wr
  have h1 := Int.le_bmod (x := z) (m := 4294967296) (by decide)
  have h2 := Int.bmod_lt (x := z) (m := 4294967296) (by decide)
  exact ⟨by omega, by omega⟩
theorem wr_eq (z : Int) : Int32.ofInt z = Int32.ofInt (wr z) := by
  apply Int32.toInt_inj.mp
  rw [oi_toInt (wr_in z), Int32.toInt_ofInt]
  rfl
theorem go_iaddW {x z : Int} (d : decode cc pc = .ok (.iadd, 1))  (k : Go S y cc nL t mc ms ret (pc + 1) lv (vI (wr (x + z)) :: st) n P M Q) : Go S y cc nL t mc ms ret pc lv (vI z :: vI x :: st) n P M Q := by
  intro p l e R s m args below meth c H locs cells slots base b D cy ls Qf hy hl ol os
  have hz : inR z := ok_head os
  have hx : inR x := ok_head (ok_tail os)
  refine lv_iadd hy.1.1 hy.1.2.1 d ?_
  rw [← Int32.ofInt_add, wr_eq]
  exact k _ _ _ _ _ _ _ _ _ _ _ _ _ _ _ _ _ _ _ _ hy hl ol (ok_cons (v := vI (wr (x + z))) (wr_in _) (ok_tail (ok_tail os)))
theorem go_imulW {x z : Int} (d : decode cc pc = .ok (.imul, 1))  (k : Go S y cc nL t mc ms ret (pc + 1) lv (vI (wr (x * z)) :: st) n P M Q) : Go S y cc nL t mc ms ret pc lv (vI z :: vI x :: st) n P M Q := by
  intro p l e R s m args below meth c H locs cells slots base b D cy ls Qf hy hl ol os
  have hz : inR z := ok_head os
  have hx : inR x := ok_head (ok_tail os)
  refine lv_imul hy.1.1 hy.1.2.1 d ?_
  rw [← Int32.ofInt_mul, wr_eq]
  exact k _ _ _ _ _ _ _ _ _ _ _ _ _ _ _ _ _ _ _ _ hy hl ol (ok_cons (v := vI (wr (x * z))) (wr_in _) (ok_tail (ok_tail os)))
theorem go_idiv {x z : Int} (d : decode cc pc = .ok (.idiv, 1)) (h0 : 0 ≤ x) (h1 : 0 < z) (k : Go S y cc nL t mc ms ret (pc + 1) lv (vI (x / z) :: st) n P M Q) : Go S y cc nL t mc ms ret pc lv (vI z :: vI x :: st) n P M Q := by
  intro p l e R s m args below meth c H locs cells slots base b D cy ls Qf hy hl ol os
  have hz : inR z := ok_head os
  have hx : inR x := ok_head (ok_tail os)
  refine lv_idiv hy.1.1 hy.1.2.1 d (fun q => by rw [oi_0] at q; have := (oi_inj hz (by decide)).mp q; omega) ?_
  rw [oi_div hx hz h0 h1]
  exact k _ _ _ _ _ _ _ _ _ _ _ _ _ _ _ _ _ _ _ _ hy hl ol (ok_cons (v := vI (x / z)) ⟨by have := Int.ediv_nonneg h0 (show 0 ≤ z by omega); omega, by have := Int.ediv_le_self z h0; have := hx.2; omega⟩ (ok_tail (ok_tail os)))
theorem go_irem {x z : Int} (d : decode cc pc = .ok (.irem, 1)) (h0 : 0 ≤ x) (h1 : 0 < z) (k : Go S y cc nL t mc ms ret (pc + 1) lv (vI (x % z) :: st) n P M Q) : Go S y cc nL t mc ms ret pc lv (vI z :: vI x :: st) n P M Q := by
  intro p l e R s m args below meth c H locs cells slots base b D cy ls Qf hy hl ol os
  have hz : inR z := ok_head os
  have hx : inR x := ok_head (ok_tail os)
  refine lv_irem hy.1.1 hy.1.2.1 d (fun q => by rw [oi_0] at q; have := (oi_inj hz (by decide)).mp q; omega) ?_
  rw [oi_rem hx hz h0 h1]
  exact k _ _ _ _ _ _ _ _ _ _ _ _ _ _ _ _ _ _ _ _ hy hl ol (ok_cons (v := vI (x % z)) ⟨by have := Int.emod_nonneg x (show z ≠ 0 by omega); omega, by have := Int.emod_lt_of_pos x h1; have := hz.2; omega⟩ (ok_tail (ok_tail os)))
theorem go_ior {x z : Int} (d : decode cc pc = .ok (.ior, 1)) (h0 : 0 ≤ x) (h1 : 0 ≤ z) (k : Go S y cc nL t mc ms ret (pc + 1) lv (vI (((x.toNat ||| z.toNat : Nat) : Int)) :: st) n P M Q) : Go S y cc nL t mc ms ret pc lv (vI z :: vI x :: st) n P M Q := by
  intro p l e R s m args below meth c H locs cells slots base b D cy ls Qf hy hl ol os
  have hz : inR z := ok_head os
  have hx : inR x := ok_head (ok_tail os)
  refine lv_ior hy.1.1 hy.1.2.1 d ?_
  rw [oi_or h0 h1]
  exact k _ _ _ _ _ _ _ _ _ _ _ _ _ _ _ _ _ _ _ _ hy hl ol (ok_cons (v := vI (((x.toNat ||| z.toNat : Nat) : Int))) (or_in hx hz h0 h1) (ok_tail (ok_tail os)))
theorem go_iand {x z : Int} (d : decode cc pc = .ok (.iand, 1)) (h0 : 0 ≤ x) (h1 : 0 ≤ z) (k : Go S y cc nL t mc ms ret (pc + 1) lv (vI (((x.toNat &&& z.toNat : Nat) : Int)) :: st) n P M Q) : Go S y cc nL t mc ms ret pc lv (vI z :: vI x :: st) n P M Q := by
  intro p l e R s m args below meth c H locs cells slots base b D cy ls Qf hy hl ol os
  have hz : inR z := ok_head os
  have hx : inR x := ok_head (ok_tail os)
  refine lv_iand hy.1.1 hy.1.2.1 d ?_
  rw [oi_and h0 h1]
  exact k _ _ _ _ _ _ _ _ _ _ _ _ _ _ _ _ _ _ _ _ hy hl ol (ok_cons (v := vI (((x.toNat &&& z.toNat : Nat) : Int))) (and_in hx h0) (ok_tail (ok_tail os)))
theorem go_imask {x z : Int} (d : decode cc pc = .ok (.iand, 1)) (q : Nat) (hm : (Int32.ofInt z).toBitVec.toNat = 2 ^ q - 1) (hk : q ≤ 31) (k : Go S y cc nL t mc ms ret (pc + 1) lv (vI (x % ((2 ^ q : Nat) : Int)) :: st) n P M Q) : Go S y cc nL t mc ms ret pc lv (vI z :: vI x :: st) n P M Q := by
  intro p l e R s m args below meth c H locs cells slots base b D cy ls Qf hy hl ol os
  have hz : inR z := ok_head os
  have hx : inR x := ok_head (ok_tail os)
  refine lv_iand hy.1.1 hy.1.2.1 d ?_
  rw [oi_mask q hm hk]
  exact k _ _ _ _ _ _ _ _ _ _ _ _ _ _ _ _ _ _ _ _ hy hl ol (ok_cons (v := vI (x % ((2 ^ q : Nat) : Int))) ⟨by have := Int.emod_nonneg x (show ((2 ^ q : Nat) : Int) ≠ 0 by have := Nat.two_pow_pos q; omega); omega, by have h9 := Int.emod_lt_of_pos x (show 0 < ((2 ^ q : Nat) : Int) by have := Nat.two_pow_pos q; omega); have h8 : 2 ^ q ≤ 2 ^ 31 := Nat.pow_le_pow_right (by decide) hk; omega⟩ (ok_tail (ok_tail os)))
theorem go_ishr {x z : Int} (d : decode cc pc = .ok (.ishr, 1)) (h0 : 0 ≤ x) (h1 : 0 ≤ z) (h2 : z ≤ 31) (k : Go S y cc nL t mc ms ret (pc + 1) lv (vI (x / ((2 ^ z.toNat : Nat) : Int)) :: st) n P M Q) : Go S y cc nL t mc ms ret pc lv (vI z :: vI x :: st) n P M Q := by
  intro p l e R s m args below meth c H locs cells slots base b D cy ls Qf hy hl ol os
  have hz : inR z := ok_head os
  have hx : inR x := ok_head (ok_tail os)
  refine lv_ishr hy.1.1 hy.1.2.1 d ?_
  rw [oi_shr hx h0 h1 h2]
  exact k _ _ _ _ _ _ _ _ _ _ _ _ _ _ _ _ _ _ _ _ hy hl ol (ok_cons (v := vI (x / ((2 ^ z.toNat : Nat) : Int))) (shr_in hx h0 _) (ok_tail (ok_tail os)))
theorem go_iushr {x z : Int} (d : decode cc pc = .ok (.iushr, 1)) (h0 : 0 ≤ x) (h1 : 0 ≤ z) (h2 : z ≤ 31) (k : Go S y cc nL t mc ms ret (pc + 1) lv (vI (x / ((2 ^ z.toNat : Nat) : Int)) :: st) n P M Q) : Go S y cc nL t mc ms ret pc lv (vI z :: vI x :: st) n P M Q := by
  intro p l e R s m args below meth c H locs cells slots base b D cy ls Qf hy hl ol os
  have hx : inR x := ok_head (ok_tail os)
  exact lv_iushr hy.1.1 hy.1.2.1 d (oi_ushr hx h0 h1 h2) (k _ _ _ _ _ _ _ _ _ _ _ _ _ _ _ _ _ _ _ _ hy hl ol (ok_cons (v := vI (x / ((2 ^ z.toNat : Nat) : Int))) (shr_in hx h0 _) (ok_tail (ok_tail os))))
theorem go_shl1 {z : Int} (d : decode cc pc = .ok (.ishl, 1)) (h0 : 0 ≤ z) (h1 : z ≤ 30) (k : Go S y cc nL t mc ms ret (pc + 1) lv (vI ((2 ^ z.toNat : Nat) : Int) :: st) n P M Q) : Go S y cc nL t mc ms ret pc lv (vI z :: vI 1 :: st) n P M Q := by
  intro p l e R s m args below meth c H locs cells slots base b D cy ls Qf hy hl ol os
  refine lv_ishl hy.1.1 hy.1.2.1 d ?_
  rw [oi_shl1 h0 h1]
  refine k _ _ _ _ _ _ _ _ _ _ _ _ _ _ _ _ _ _ _ _ hy hl ol (ok_cons (v := vI ((2 ^ z.toNat : Nat) : Int)) ?_ (ok_tail (ok_tail os)))
  have h9 : 2 ^ z.toNat ≤ 2 ^ 30 := Nat.pow_le_pow_right (by decide) (by omega)
  show inR ((2 ^ z.toNat : Nat) : Int)
  generalize 2 ^ z.toNat = v at h9 ⊢
  exact ⟨by omega, by omega⟩
theorem go_ladd {x z : Int} (d : decode cc pc = .ok (.ladd, 1)) (h : inL (x + z)) (k : Go S y cc nL t mc ms ret (pc + 1) lv (vL (x + z) :: st) n P M Q) : Go S y cc nL t mc ms ret pc lv (vL z :: vL x :: st) n P M Q := by
  intro p l e R s m args below meth c H locs cells slots base b D cy ls Qf hy hl ol os
  have hz : inL z := ok_head os
  have hx : inL x := ok_head (ok_tail os)
  refine lv_ladd hy.1.1 hy.1.2.1 d ?_
  rw [← Int64.ofInt_add]
  exact k _ _ _ _ _ _ _ _ _ _ _ _ _ _ _ _ _ _ _ _ hy hl ol (ok_cons (v := vL (x + z)) h (ok_tail (ok_tail os)))
theorem go_lmul {x z : Int} (d : decode cc pc = .ok (.lmul, 1)) (h : inL (x * z)) (k : Go S y cc nL t mc ms ret (pc + 1) lv (vL (x * z) :: st) n P M Q) : Go S y cc nL t mc ms ret pc lv (vL z :: vL x :: st) n P M Q := by
  intro p l e R s m args below meth c H locs cells slots base b D cy ls Qf hy hl ol os
  have hz : inL z := ok_head os
  have hx : inL x := ok_head (ok_tail os)
  refine lv_lmul hy.1.1 hy.1.2.1 d ?_
  rw [← Int64.ofInt_mul]
  exact k _ _ _ _ _ _ _ _ _ _ _ _ _ _ _ _ _ _ _ _ hy hl ol (ok_cons (v := vL (x * z)) h (ok_tail (ok_tail os)))
theorem go_ldiv {x z : Int} (d : decode cc pc = .ok (.ldiv, 1)) (h0 : 0 ≤ x) (h1 : 0 < z) (k : Go S y cc nL t mc ms ret (pc + 1) lv (vL (x / z) :: st) n P M Q) : Go S y cc nL t mc ms ret pc lv (vL z :: vL x :: st) n P M Q := by
  intro p l e R s m args below meth c H locs cells slots base b D cy ls Qf hy hl ol os
  have hz : inL z := ok_head os
  have hx : inL x := ok_head (ok_tail os)
  refine lv_ldiv hy.1.1 hy.1.2.1 d (fun q => by rw [show (0 : Int64) = Int64.ofInt 0 by decide] at q; have := congrArg Int64.toInt q; rw [ol_toInt hz, ol_toInt (by decide)] at this; omega) ?_
  rw [ol_div hx hz h0 h1]
  exact k _ _ _ _ _ _ _ _ _ _ _ _ _ _ _ _ _ _ _ _ hy hl ol (ok_cons (v := vL (x / z)) ⟨by have := Int.ediv_nonneg h0 (show 0 ≤ z by omega); omega, by have := Int.ediv_le_self z h0; have := hx.2; omega⟩ (ok_tail (ok_tail os)))
theorem go_lrem {x z : Int} (d : decode cc pc = .ok (.lrem, 1)) (h0 : 0 ≤ x) (h1 : 0 < z) (k : Go S y cc nL t mc ms ret (pc + 1) lv (vL (x % z) :: st) n P M Q) : Go S y cc nL t mc ms ret pc lv (vL z :: vL x :: st) n P M Q := by
  intro p l e R s m args below meth c H locs cells slots base b D cy ls Qf hy hl ol os
  have hz : inL z := ok_head os
  have hx : inL x := ok_head (ok_tail os)
  refine lv_lrem hy.1.1 hy.1.2.1 d (fun q => by rw [show (0 : Int64) = Int64.ofInt 0 by decide] at q; have := congrArg Int64.toInt q; rw [ol_toInt hz, ol_toInt (by decide)] at this; omega) ?_
  rw [ol_rem hx hz h0 h1]
  exact k _ _ _ _ _ _ _ _ _ _ _ _ _ _ _ _ _ _ _ _ hy hl ol (ok_cons (v := vL (x % z)) ⟨by have := Int.emod_nonneg x (show z ≠ 0 by omega); omega, by have := Int.emod_lt_of_pos x h1; have := hz.2; omega⟩ (ok_tail (ok_tail os)))
theorem go_lcmp {x z : Int} (d : decode cc pc = .ok (.lcmp, 1))  (k : Go S y cc nL t mc ms ret (pc + 1) lv (vI (lcm x z) :: st) n P M Q) : Go S y cc nL t mc ms ret pc lv (vL z :: vL x :: st) n P M Q := by
  intro p l e R s m args below meth c H locs cells slots base b D cy ls Qf hy hl ol os
  have hz : inL z := ok_head os
  have hx : inL x := ok_head (ok_tail os)
  refine W.lcmp hy.1.1 hy.1.2.1 d ?_
  rw [ol_cmp hx hz]
  exact k _ _ _ _ _ _ _ _ _ _ _ _ _ _ _ _ _ _ _ _ hy hl ol (ok_cons (v := vI (lcm x z)) (lcm_in _ _) (ok_tail (ok_tail os)))
theorem go_i2l {x : Int} (d : decode cc pc = .ok (.i2l, 1)) (k : Go S y cc nL t mc ms ret (pc + 1) lv (vL x :: st) n P M Q) : Go S y cc nL t mc ms ret pc lv (vI x :: st) n P M Q := by
  intro p l e R s m args below meth c H locs cells slots base b D cy ls Qf hy hl ol os
  have hx : inR x := ok_head os
  exact lv_i2l hy.1.1 hy.1.2.1 d (oi_l hx) (k _ _ _ _ _ _ _ _ _ _ _ _ _ _ _ _ _ _ _ _ hy hl ol (ok_cons (v := vL x) ⟨by have := hx.1; omega, by have := hx.2; omega⟩ (ok_tail os)))
theorem go_l2i {x : Int} (d : decode cc pc = .ok (.l2i, 1)) (h : inR x) (k : Go S y cc nL t mc ms ret (pc + 1) lv (vI x :: st) n P M Q) : Go S y cc nL t mc ms ret pc lv (vL x :: st) n P M Q := by
  intro p l e R s m args below meth c H locs cells slots base b D cy ls Qf hy hl ol os
  have hx : inL x := ok_head os
  exact lv_l2i hy.1.1 hy.1.2.1 d (ol_i hx) (k _ _ _ _ _ _ _ _ _ _ _ _ _ _ _ _ _ _ _ _ hy hl ol (ok_cons (v := vI x) h (ok_tail os)))
theorem rv_cat1 {base b : Nat} {v : PV} (hv : isL v = false) : (rv base b v).category = 1 := by
  match v, hv with
  | .inl _, _ => rfl
  | .inr (.inr (.inl _)), _ => rfl
  | .inr (.inr (.inr _)), _ => rfl
theorem go_dup {v : PV} (d : decode cc pc = .ok (.dup, 1)) (hv : isL v = false) (k : Go S y cc nL t mc ms ret (pc + 1) lv (v :: v :: st) n P M Q) : Go S y cc nL t mc ms ret pc lv (v :: st) n P M Q := by
  intro p l e R s m args below meth c H locs cells slots base b D cy ls Qf hy hl ol os
  exact lv_dup hy.1.1 hy.1.2.1 d (rv_cat1 hv) (k _ _ _ _ _ _ _ _ _ _ _ _ _ _ _ _ _ _ _ _ hy hl ol (ok_cons (ok_head os) os))
theorem go_pop {v : PV} (d : decode cc pc = .ok (.pop, 1)) (hv : isL v = false) (k : Go S y cc nL t mc ms ret (pc + 1) lv st n P M Q) : Go S y cc nL t mc ms ret pc lv (v :: st) n P M Q := by
  intro p l e R s m args below meth c H locs cells slots base b D cy ls Qf hy hl ol os
  exact lv_pop hy.1.1 hy.1.2.1 d (rv_cat1 hv) (k _ _ _ _ _ _ _ _ _ _ _ _ _ _ _ _ _ _ _ _ hy hl ol (ok_tail os))
theorem go_dup2 {u v : PV} (d : decode cc pc = .ok (.dup2, 1)) (hu : isL u = false) (hv : isL v = false) (k : Go S y cc nL t mc ms ret (pc + 1) lv (u :: v :: u :: v :: st) n P M Q) : Go S y cc nL t mc ms ret pc lv (u :: v :: st) n P M Q := by
  intro p l e R s m args below meth c H locs cells slots base b D cy ls Qf hy hl ol os
  exact lv_dup2_11 hy.1.1 hy.1.2.1 d (rv_cat1 hu) (rv_cat1 hv) (k _ _ _ _ _ _ _ _ _ _ _ _ _ _ _ _ _ _ _ _ hy hl ol (ok_cons (ok_head os) (ok_cons (ok_head (ok_tail os)) os)))
theorem go_if_eq {x : Int} {off : Int} {tgt : Nat} (d : decode cc pc = .ok (.ifCond .eq off, 3)) (ht : (pc : Int) + off = (tgt : Int)) (kt : x = 0 → Go S y cc nL t mc ms ret tgt lv st n P M Q) (kf : ¬ x = 0 → Go S y cc nL t mc ms ret (pc + 3) lv st n P M Q) : Go S y cc nL t mc ms ret pc lv (vI x :: st) n P M Q := by
  intro p l e R s m args below meth c H locs cells slots base b D cy ls Qf hy hl ol os
  have hx : inR x := ok_head os
  exact lv_if_eq hy.1.1 hy.1.2.1 d ht (fun h => kt (by rw [oi_0] at h; exact (oi_inj hx (by decide)).mp h) _ _ _ _ _ _ _ _ _ _ _ _ _ _ _ _ _ _ _ _ hy hl ol (ok_tail os)) (fun h => kf (fun q => h (by rw [oi_0]; exact (oi_inj hx (by decide)).mpr q) ) _ _ _ _ _ _ _ _ _ _ _ _ _ _ _ _ _ _ _ _ hy hl ol (ok_tail os))
theorem go_icmp_eq {x z : Int} {off : Int} {tgt : Nat} (d : decode cc pc = .ok (.if_icmp .eq off, 3)) (ht : (pc : Int) + off = (tgt : Int)) (kt : x = z → Go S y cc nL t mc ms ret tgt lv st n P M Q) (kf : ¬ x = z → Go S y cc nL t mc ms ret (pc + 3) lv st n P M Q) : Go S y cc nL t mc ms ret pc lv (vI z :: vI x :: st) n P M Q := by
  intro p l e R s m args below meth c H locs cells slots base b D cy ls Qf hy hl ol os
  have hz : inR z := ok_head os
  have hx : inR x := ok_head (ok_tail os)
  exact lv_icmp_eq hy.1.1 hy.1.2.1 d ht (fun h => kt (by exact (oi_inj hx hz).mp h) _ _ _ _ _ _ _ _ _ _ _ _ _ _ _ _ _ _ _ _ hy hl ol (ok_tail (ok_tail os))) (fun h => kf (fun q => h (by exact (oi_inj hx hz).mpr q) ) _ _ _ _ _ _ _ _ _ _ _ _ _ _ _ _ _ _ _ _ hy hl ol (ok_tail (ok_tail os)))
theorem go_if_ne {x : Int} {off : Int} {tgt : Nat} (d : decode cc pc = .ok (.ifCond .ne off, 3)) (ht : (pc : Int) + off = (tgt : Int)) (kt : ¬ x = 0 → Go S y cc nL t mc ms ret tgt lv st n P M Q) (kf : x = 0 → Go S y cc nL t mc ms ret (pc + 3) lv st n P M Q) : Go S y cc nL t mc ms ret pc lv (vI x :: st) n P M Q := by
  intro p l e R s m args below meth c H locs cells slots base b D cy ls Qf hy hl ol os
  have hx : inR x := ok_head os
  exact lv_if_ne hy.1.1 hy.1.2.1 d ht (fun h => kt (fun q => h (by rw [oi_0]; exact (oi_inj hx (by decide)).mpr q) ) _ _ _ _ _ _ _ _ _ _ _ _ _ _ _ _ _ _ _ _ hy hl ol (ok_tail os)) (fun h => kf (by rw [oi_0] at h; exact (oi_inj hx (by decide)).mp h) _ _ _ _ _ _ _ _ _ _ _ _ _ _ _ _ _ _ _ _ hy hl ol (ok_tail os))
theorem go_icmp_ne {x z : Int} {off : Int} {tgt : Nat} (d : decode cc pc = .ok (.if_icmp .ne off, 3)) (ht : (pc : Int) + off = (tgt : Int)) (kt : ¬ x = z → Go S y cc nL t mc ms ret tgt lv st n P M Q) (kf : x = z → Go S y cc nL t mc ms ret (pc + 3) lv st n P M Q) : Go S y cc nL t mc ms ret pc lv (vI z :: vI x :: st) n P M Q := by
  intro p l e R s m args below meth c H locs cells slots base b D cy ls Qf hy hl ol os
  have hz : inR z := ok_head os
  have hx : inR x := ok_head (ok_tail os)
  exact lv_icmp_ne hy.1.1 hy.1.2.1 d ht (fun h => kt (fun q => h (by exact (oi_inj hx hz).mpr q) ) _ _ _ _ _ _ _ _ _ _ _ _ _ _ _ _ _ _ _ _ hy hl ol (ok_tail (ok_tail os))) (fun h => kf (by exact (oi_inj hx hz).mp h) _ _ _ _ _ _ _ _ _ _ _ _ _ _ _ _ _ _ _ _ hy hl ol (ok_tail (ok_tail os)))
theorem go_if_lt {x : Int} {off : Int} {tgt : Nat} (d : decode cc pc = .ok (.ifCond .lt off, 3)) (ht : (pc : Int) + off = (tgt : Int)) (kt : x < 0 → Go S y cc nL t mc ms ret tgt lv st n P M Q) (kf : ¬ x < 0 → Go S y cc nL t mc ms ret (pc + 3) lv st n P M Q) : Go S y cc nL t mc ms ret pc lv (vI x :: st) n P M Q := by
  intro p l e R s m args below meth c H locs cells slots base b D cy ls Qf hy hl ol os
  have hx : inR x := ok_head os
  exact lv_if_lt hy.1.1 hy.1.2.1 d ht (fun h => kt (by rw [oi_0] at h; exact (oi_lt hx (by decide)).mp h) _ _ _ _ _ _ _ _ _ _ _ _ _ _ _ _ _ _ _ _ hy hl ol (ok_tail os)) (fun h => kf (fun q => h (by rw [oi_0]; exact (oi_lt hx (by decide)).mpr q) ) _ _ _ _ _ _ _ _ _ _ _ _ _ _ _ _ _ _ _ _ hy hl ol (ok_tail os))
theorem go_icmp_lt {x z : Int} {off : Int} {tgt : Nat} (d : decode cc pc = .ok (.if_icmp .lt off, 3)) (ht : (pc : Int) + off = (tgt : Int)) (kt : x < z → Go S y cc nL t mc ms ret tgt lv st n P M Q) (kf : ¬ x < z → Go S y cc nL t mc ms ret (pc + 3) lv st n P M Q) : Go S y cc nL t mc ms ret pc lv (vI z :: vI x :: st) n P M Q := by
  intro p l e R s m args below meth c H locs cells slots base b D cy ls Qf hy hl ol os
  have hz : inR z := ok_head os
  have hx : inR x := ok_head (ok_tail os)
  exact lv_icmp_lt hy.1.1 hy.1.2.1 d ht (fun h => kt (by exact (oi_lt hx hz).mp h) _ _ _ _ _ _ _ _ _ _ _ _ _ _ _ _ _ _ _ _ hy hl ol (ok_tail (ok_tail os))) (fun h => kf (fun q => h (by exact (oi_lt hx hz).mpr q) ) _ _ _ _ _ _ _ _ _ _ _ _ _ _ _ _ _ _ _ _ hy hl ol (ok_tail (ok_tail os)))
theorem go_if_ge {x : Int} {off : Int} {tgt : Nat} (d : decode cc pc = .ok (.ifCond .ge off, 3)) (ht : (pc : Int) + off = (tgt : Int)) (kt : 0 ≤ x → Go S y cc nL t mc ms ret tgt lv st n P M Q) (kf : ¬ 0 ≤ x → Go S y cc nL t mc ms ret (pc + 3) lv st n P M Q) : Go S y cc nL t mc ms ret pc lv (vI x :: st) n P M Q := by
  intro p l e R s m args below meth c H locs cells slots base b D cy ls Qf hy hl ol os
  have hx : inR x := ok_head os
  exact lv_if_ge hy.1.1 hy.1.2.1 d ht (fun h => kt (by rw [oi_0] at h; exact (oi_le (by decide) hx).mp h) _ _ _ _ _ _ _ _ _ _ _ _ _ _ _ _ _ _ _ _ hy hl ol (ok_tail os)) (fun h => kf (fun q => h (by rw [oi_0]; exact (oi_le (by decide) hx).mpr q) ) _ _ _ _ _ _ _ _ _ _ _ _ _ _ _ _ _ _ _ _ hy hl ol (ok_tail os))
theorem go_icmp_ge {x z : Int} {off : Int} {tgt : Nat} (d : decode cc pc = .ok (.if_icmp .ge off, 3)) (ht : (pc : Int) + off = (tgt : Int)) (kt : z ≤ x → Go S y cc nL t mc ms ret tgt lv st n P M Q) (kf : ¬ z ≤ x → Go S y cc nL t mc ms ret (pc + 3) lv st n P M Q) : Go S y cc nL t mc ms ret pc lv (vI z :: vI x :: st) n P M Q := by
  intro p l e R s m args below meth c H locs cells slots base b D cy ls Qf hy hl ol os
  have hz : inR z := ok_head os
  have hx : inR x := ok_head (ok_tail os)
  exact lv_icmp_ge hy.1.1 hy.1.2.1 d ht (fun h => kt (by exact (oi_le hz hx).mp h) _ _ _ _ _ _ _ _ _ _ _ _ _ _ _ _ _ _ _ _ hy hl ol (ok_tail (ok_tail os))) (fun h => kf (fun q => h (by exact (oi_le hz hx).mpr q) ) _ _ _ _ _ _ _ _ _ _ _ _ _ _ _ _ _ _ _ _ hy hl ol (ok_tail (ok_tail os)))
theorem go_if_gt {x : Int} {off : Int} {tgt : Nat} (d : decode cc pc = .ok (.ifCond .gt off, 3)) (ht : (pc : Int) + off = (tgt : Int)) (kt : 0 < x → Go S y cc nL t mc ms ret tgt lv st n P M Q) (kf : ¬ 0 < x → Go S y cc nL t mc ms ret (pc + 3) lv st n P M Q) : Go S y cc nL t mc ms ret pc lv (vI x :: st) n P M Q := by
  intro p l e R s m args below meth c H locs cells slots base b D cy ls Qf hy hl ol os
  have hx : inR x := ok_head os
  exact lv_if_gt hy.1.1 hy.1.2.1 d ht (fun h => kt (by rw [oi_0] at h; exact (oi_lt (by decide) hx).mp h) _ _ _ _ _ _ _ _ _ _ _ _ _ _ _ _ _ _ _ _ hy hl ol (ok_tail os)) (fun h => kf (fun q => h (by rw [oi_0]; exact (oi_lt (by decide) hx).mpr q) ) _ _ _ _ _ _ _ _ _ _ _ _ _ _ _ _ _ _ _ _ hy hl ol (ok_tail os))
theorem go_icmp_gt {x z : Int} {off : Int} {tgt : Nat} (d : decode cc pc = .ok (.if_icmp .gt off, 3)) (ht : (pc : Int) + off = (tgt : Int)) (kt : z < x → Go S y cc nL t mc ms ret tgt lv st n P M Q) (kf : ¬ z < x → Go S y cc nL t mc ms ret (pc + 3) lv st n P M Q) : Go S y cc nL t mc ms ret pc lv (vI z :: vI x :: st) n P M Q := by
  intro p l e R s m args below meth c H locs cells slots base b D cy ls Qf hy hl ol os
  have hz : inR z := ok_head os
  have hx : inR x := ok_head (ok_tail os)
  exact lv_icmp_gt hy.1.1 hy.1.2.1 d ht (fun h => kt (by exact (oi_lt hz hx).mp h) _ _ _ _ _ _ _ _ _ _ _ _ _ _ _ _ _ _ _ _ hy hl ol (ok_tail (ok_tail os))) (fun h => kf (fun q => h (by exact (oi_lt hz hx).mpr q) ) _ _ _ _ _ _ _ _ _ _ _ _ _ _ _ _ _ _ _ _ hy hl ol (ok_tail (ok_tail os)))
theorem go_if_le {x : Int} {off : Int} {tgt : Nat} (d : decode cc pc = .ok (.ifCond .le off, 3)) (ht : (pc : Int) + off = (tgt : Int)) (kt : x ≤ 0 → Go S y cc nL t mc ms ret tgt lv st n P M Q) (kf : ¬ x ≤ 0 → Go S y cc nL t mc ms ret (pc + 3) lv st n P M Q) : Go S y cc nL t mc ms ret pc lv (vI x :: st) n P M Q := by
  intro p l e R s m args below meth c H locs cells slots base b D cy ls Qf hy hl ol os
  have hx : inR x := ok_head os
  exact lv_if_le hy.1.1 hy.1.2.1 d ht (fun h => kt (by rw [oi_0] at h; exact (oi_le hx (by decide)).mp h) _ _ _ _ _ _ _ _ _ _ _ _ _ _ _ _ _ _ _ _ hy hl ol (ok_tail os)) (fun h => kf (fun q => h (by rw [oi_0]; exact (oi_le hx (by decide)).mpr q) ) _ _ _ _ _ _ _ _ _ _ _ _ _ _ _ _ _ _ _ _ hy hl ol (ok_tail os))
theorem go_icmp_le {x z : Int} {off : Int} {tgt : Nat} (d : decode cc pc = .ok (.if_icmp .le off, 3)) (ht : (pc : Int) + off = (tgt : Int)) (kt : x ≤ z → Go S y cc nL t mc ms ret tgt lv st n P M Q) (kf : ¬ x ≤ z → Go S y cc nL t mc ms ret (pc + 3) lv st n P M Q) : Go S y cc nL t mc ms ret pc lv (vI z :: vI x :: st) n P M Q := by
  intro p l e R s m args below meth c H locs cells slots base b D cy ls Qf hy hl ol os
  have hz : inR z := ok_head os
  have hx : inR x := ok_head (ok_tail os)
  exact lv_icmp_le hy.1.1 hy.1.2.1 d ht (fun h => kt (by exact (oi_le hx hz).mp h) _ _ _ _ _ _ _ _ _ _ _ _ _ _ _ _ _ _ _ _ hy hl ol (ok_tail (ok_tail os))) (fun h => kf (fun q => h (by exact (oi_le hx hz).mpr q) ) _ _ _ _ _ _ _ _ _ _ _ _ _ _ _ _ _ _ _ _ hy hl ol (ok_tail (ok_tail os)))
theorem go_goto {off : Int} {tgt : Nat} (d : decode cc pc = .ok (.goto off, 3)) (ht : (pc : Int) + off = (tgt : Int)) (k : Go S y cc nL t mc ms ret tgt lv st n P M Q) : Go S y cc nL t mc ms ret pc lv st n P M Q := by
  intro p l e R s m args below meth c H locs cells slots base b D cy ls Qf hy hl ol os
  exact lv_goto hy.1.1 hy.1.2.1 d ht (k _ _ _ _ _ _ _ _ _ _ _ _ _ _ _ _ _ _ _ _ hy hl ol os)
theorem go_tblOut {x : Int} {dflt lo hi : Int} {offs : Array Int} {len tgt : Nat} (d : decode cc pc = .ok (.tableswitch dflt lo hi offs, len)) (h : x < lo ∨ hi < x) (ht : (pc : Int) + dflt = (tgt : Int)) (k : Go S y cc nL t mc ms ret tgt lv st n P M Q) : Go S y cc nL t mc ms ret pc lv (vI x :: st) n P M Q := by
  intro p l e R s m args below meth c H locs cells slots base b D cy ls Qf hy hl ol os
  have hx : inR x := ok_head os
  exact lv_tableOut hy.1.1 hy.1.2.1 d (by rw [oi_toInt hx]; exact h) ht (k _ _ _ _ _ _ _ _ _ _ _ _ _ _ _ _ _ _ _ _ hy hl ol (ok_tail os))
theorem go_tblIn {x : Int} {dflt lo hi off : Int} {offs : Array Int} {len tgt : Nat} (d : decode cc pc = .ok (.tableswitch dflt lo hi offs, len)) (h1 : lo ≤ x) (h2 : x ≤ hi) (ho : offs[(x - lo).toNat]? = some off) (ht : (pc : Int) + off = (tgt : Int)) (k : Go S y cc nL t mc ms ret tgt lv st n P M Q) : Go S y cc nL t mc ms ret pc lv (vI x :: st) n P M Q := by
  intro p l e R s m args below meth c H locs cells slots base b D cy ls Qf hy hl ol os
  have hx : inR x := ok_head os
  exact lv_tableIn hy.1.1 hy.1.2.1 d (by rw [oi_toInt hx]; omega) (by rw [oi_toInt hx]; omega) (by rw [oi_toInt hx]; exact ho) ht (k _ _ _ _ _ _ _ _ _ _ _ _ _ _ _ _ _ _ _ _ hy hl ol (ok_tail os))
theorem go_look {x : Int} {dflt off : Int} {ps : Array (Int × Int)} {len tgt : Nat} (d : decode cc pc = .ok (.lookupswitch dflt ps, len)) (hp : (ps.toList.zip (ps.toList.drop 1)).all (fun (a, next) => a.1 < next.1) = true) (ho : Op.lookupswitch.offset ps.toList dflt x = off) (ht : (pc : Int) + off = (tgt : Int)) (k : Go S y cc nL t mc ms ret tgt lv st n P M Q) : Go S y cc nL t mc ms ret pc lv (vI x :: st) n P M Q := by
  intro p l e R s m args below meth c H locs cells slots base b D cy ls Qf hy hl ol os
  have hx : inR x := ok_head os
  exact lv_lookup hy.1.1 hy.1.2.1 d hp (by rw [oi_toInt hx]; exact ho) ht (k _ _ _ _ _ _ _ _ _ _ _ _ _ _ _ _ _ _ _ _ hy hl ol (ok_tail os))
theorem go_iret {z : Int} {ty : FieldType} (d : decode cc pc = .ok (.ireturn, 1)) (hr : ret = some ty) (hn : narrow ty (.int (Int32.ofInt z)) = .int (Int32.ofInt z)) (hq : Q (some (vI z)) n P M) : Go S y cc nL t mc ms ret pc lv [vI z] n P M Q := by
  intro p l e R s m args below meth c H locs cells slots base b D cy ls Qf hy hl ol os
  subst hr
  exact hy.2.2.2.2.2.2 (some (vI z)) n P M H locs cells slots pc ls hq hy.2.2.2.1 hy.2.2.2.2.1 (by have := hy.2.2.2.2.2.1; omega) (by have := hy.2.2.2.2.2.1; omega) os ⟨d, hn⟩
theorem go_ret (d : decode cc pc = .ok (.return_, 1)) (hr : ret = none) (hq : Q none n P M) : Go S y cc nL t mc ms ret pc lv [] n P M Q := by
  intro p l e R s m args below meth c H locs cells slots base b D cy ls Qf hy hl ol os
  subst hr
  exact hy.2.2.2.2.2.2 none n P M H locs cells slots pc ls hq hy.2.2.2.1 hy.2.2.2.2.1 (by have := hy.2.2.2.2.2.1; omega) (by have := hy.2.2.2.2.2.1; omega) os d
end GoStep
