/-! ===== the cells that the law makes, by number: kinds (a class's number in vwCl; 11 int[], 12 boolean[], 13 Onion[], 14 Image[], 15 int[][]) and lengths ===== -/
def kdT : List (Nat × Nat) := [(9, 0), (7, 0), (11, 240), (11, 8), (1, 0), (11, 12), (11, 12), (11, 5), (11, 5), (11, 6), (15, 6), (11, 8), (11, 8), (11, 8), (11, 8), (11, 8), (11, 8), (1, 0), (11, 12), (11, 12), (11, 5), (11, 5), (11, 6), (15, 6), (11, 8), (11, 8), (11, 8), (11, 8), (11, 8), (11, 8), (6, 0), (11, 12), (11, 12), (11, 5), (11, 5), (11, 5), (11, 80), (2, 0), (13, 30), (6, 0), (11, 12), (11, 12), (11, 5), (11, 5), (11, 5), (11, 80), (6, 0), (11, 12), (11, 12), (11, 5), (11, 5), (11, 5), (11, 80), (6, 0), (11, 12), (11, 12), (11, 5), (11, 5), (11, 5), (11, 80), (6, 0), (11, 12), (11, 12), (11, 5), (11, 5), (11, 5), (11, 80), (6, 0), (11, 12), (11, 12), (11, 5), (11, 5), (11, 5), (11, 80), (6, 0), (11, 12), (11, 12), (11, 5), (11, 5), (11, 5), (11, 80), (6, 0), (11, 12), (11, 12), (11, 5), (11, 5), (11, 5), (11, 80), (6, 0), (11, 12), (11, 12), (11, 5), (11, 5), (11, 5), (11, 80), (6, 0), (11, 12), (11, 12), (11, 5), (11, 5), (11, 5), (11, 80), (6, 0), (11, 12), (11, 12), (11, 5), (11, 5), (11, 5), (11, 80), (6, 0), (11, 12), (11, 12), (11, 5), (11, 5), (11, 5), (11, 80), (6, 0), (11, 12), (11, 12), (11, 5), (11, 5), (11, 5), (11, 80), (6, 0), (11, 12), (11, 12), (11, 5), (11, 5), (11, 5), (11, 80), (6, 0), (11, 12), (11, 12), (11, 5), (11, 5), (11, 5), (11, 80), (6, 0), (11, 12), (11, 12), (11, 5), (11, 5), (11, 5), (11, 80), (6, 0), (11, 12), (11, 12), (11, 5), (11, 5), (11, 5), (11, 80), (6, 0), (11, 12), (11, 12), (11, 5), (11, 5), (11, 5), (11, 80), (6, 0), (11, 12), (11, 12), (11, 5), (11, 5), (11, 5), (11, 80), (6, 0), (11, 12), (11, 12), (11, 5), (11, 5), (11, 5), (11, 80), (6, 0), (11, 12), (11, 12), (11, 5), (11, 5), (11, 5), (11, 80), (6, 0), (11, 12), (11, 12), (11, 5), (11, 5), (11, 5), (11, 80), (6, 0), (11, 12), (11, 12), (11, 5), (11, 5), (11, 5), (11, 80), (6, 0), (11, 12), (11, 12), (11, 5), (11, 5), (11, 5), (11, 80), (6, 0), (11, 12), (11, 12), (11, 5), (11, 5), (11, 5), (11, 80), (6, 0), (11, 12), (11, 12), (11, 5), (11, 5), (11, 5), (11, 80), (6, 0), (11, 12), (11, 12), (11, 5), (11, 5), (11, 5), (11, 80), (6, 0), (11, 12), (11, 12), (11, 5), (11, 5), (11, 5), (11, 80), (6, 0), (11, 12), (11, 12), (11, 5), (11, 5), (11, 5), (11, 80), (6, 0), (11, 12), (11, 12), (11, 5), (11, 5), (11, 5), (11, 80), (6, 0), (11, 12), (11, 12), (11, 5), (11, 5), (11, 5), (11, 80), (14, 2), (5, 0), (6, 0), (11, 12), (11, 12), (11, 5), (11, 5), (11, 5), (11, 80), (5, 0), (6, 0), (11, 12), (11, 12), (11, 5), (11, 5), (11, 5), (11, 80), (4, 0), (11, 6), (11, 6), (12, 6), (0, 0), (11, 20), (11, 20), (8, 0), (11, 13), (11, 13), (11, 5), (11, 6), (3, 0), (10, 0), (11, 5), (11, 5), (11, 6), (11, 48), (11, 125), (11, 20), (11, 20), (11, 6), (11, 6), (11, 6), (11, 240), (11, 12), (11, 12), (11, 5), (11, 5), (11, 6), (11, 48), (11, 3750), (11, 78), (11, 14), (11, 5), (11, 252), (12, 2)]
def kd (k : Nat) : Nat := (kdT.getD k (99, 0)).1
def ln (k : Nat) : Nat := (kdT.getD k (99, 0)).2
def nfT : List Nat := [3, 11, 3, 1, 4, 3, 12, 6, 4, 10, 40]
def nf (c : Nat) : Nat := nfT.getD c 0
def rfT : List (List Bool) := [[true, true, false], [false, false, false, false, false, true, true, true, true, true, true], [true, false, false], [false], [true, true, true, false], [false, true, false], [false, true, true, true, true, true, true, false, false, false, false, false], [true, true, false, false, false, false], [true, true, true, true], [true, true, true, true, true, true, true, true, true, true], [false, false, false, true, true, false, true, true, true, false, false, true, true, false, true, true, true, true, false, false, false, false, false, false, false, true, true, false, true, true, false, true, true, false, true, true, true, true, true, true]]
def rfq (c j : Nat) : Bool := (rfT.getD c []).getD j false
/-! ===== pure values and memory: an int is an Int, a cell of the law's own is its number ===== -/
abbrev PV : Type := Int ⊕ Int ⊕ Nat ⊕ Unit
abbrev vI (z : Int) : PV := .inl z
abbrev vL (z : Int) : PV := .inr (.inl z)
abbrev vR (k : Nat) : PV := .inr (.inr (.inl k))
abbrev vS : PV := .inr (.inr (.inr ()))
abbrev rfm : Type := Nat → Nat → Option Nat
abbrev inm : Type := Nat → Nat → Int
def rv (base b : Nat) (v : PV) : Value := match v with
  | .inl z => .int (Int32.ofInt z)
  | .inr (.inl z) => .long (Int64.ofInt z)
  | .inr (.inr (.inl k)) => .ref (base + k)
  | .inr (.inr (.inr _)) => .ref b
abbrev inR (z : Int) : Prop := -2147483648 ≤ z ∧ z ≤ 2147483647
abbrev inL (z : Int) : Prop := -9223372036854775808 ≤ z ∧ z ≤ 9223372036854775807
def okV (v : PV) : Prop := match v with
  | .inl z => inR z
  | .inr (.inl z) => inL z
  | _ => True
def up2 {α : Type} (f : Nat → Nat → α) (a i : Nat) (v : α) : Nat → Nat → α := fun x y => if x = a ∧ y = i then v else f x y
/-! ===== Int32 and Int ===== -/
theorem oi_toInt {z : Int} (h : inR z) : (Int32.ofInt z).toInt = z := by
  rw [Int32.toInt_ofInt]
  have h1 := h.1
  have h2 := h.2
  first | (rw [Int.bmod_def]; split <;> omega) | (simp [Int.bmod]; omega)
theorem ol_toInt {z : Int} (h : inL z) : (Int64.ofInt z).toInt = z := by
  rw [Int64.toInt_ofInt]
  have h1 := h.1
  have h2 := h.2
  first | (rw [Int.bmod_def]; split <;> omega) | (simp [Int.bmod]; omega)
theorem oi_inj {a b : Int} (ha : inR a) (hb : inR b) : Int32.ofInt a = Int32.ofInt b ↔ a = b := by
  refine ⟨fun h => ?_, fun h => by rw [h]⟩
  have h2 := congrArg Int32.toInt h
  rwa [oi_toInt ha, oi_toInt hb] at h2
theorem oi_lt {a b : Int} (ha : inR a) (hb : inR b) : Int32.ofInt a < Int32.ofInt b ↔ a < b := by
  rw [Int32.lt_iff_toInt_lt, oi_toInt ha, oi_toInt hb]
theorem oi_le {a b : Int} (ha : inR a) (hb : inR b) : Int32.ofInt a ≤ Int32.ofInt b ↔ a ≤ b := by
  rw [Int32.le_iff_toInt_le, oi_toInt ha, oi_toInt hb]
theorem oi_0 : (0 : Int32) = Int32.ofInt 0 := by decide
theorem oi_of {z : Int} {x : Int32} (h : x.toInt = z) : x = Int32.ofInt z := by
  rw [← h, Int32.ofInt_toInt]
theorem oi_range (x : Int32) : inR x.toInt := ⟨by have := x.le_toInt; first | omega | (simpa using this), by have := x.toInt_lt; first | omega | (simp at this; omega)⟩
theorem oi_clamp {z : Int} (h : inR z) : (Int32.ofInt z).toNatClampNeg = z.toNat := by
  show (Int32.ofInt z).toInt.toNat = z.toNat
  rw [oi_toInt h]
theorem oi_in {z : Int} {n : Nat} (h : inR z) (h0 : 0 ≤ z) (h1 : z < n) : vp_in (Int32.ofInt z) n := by
  unfold vp_in
  rw [oi_clamp h, oi_0, oi_lt h (by decide)]
  omega
/-! ===== the world ===== -/
def flds (base : Nat) (P : rfm) (M : inm) (k c : Nat) : List Value := (List.range (nf c)).map (fun j => if rfq c j = true then va_rf ((P k j).map (fun r => base + r)) else .int (Int32.ofInt (M k j)))
def ent (base : Nat) (cy : Nat → ClassId) (P : rfm) (M : inm) (k : Nat) : va_E :=
  if kd k < 11 then .inr (kd k, flds base P M k (kd k))
  else if kd k < 13 then .inl (cy (kd k - 11), ln k, .inl (fun i => Int32.ofInt (M k i)))
  else .inl (cy (kd k - 11), ln k, .inr (.inr (.inr (.inr (fun i => (P k i).map (fun r => base + r))))))
def wsOf (base : Nat) (cy : Nat → ClassId) (n : Nat) (P : rfm) (M : inm) : va_W := (List.range n).map (fun k => (base + k, ent base cy P M k))
def tysOf (cy : Nat → ClassId) : List (ClassId × FieldType) := [(cy 0, .int), (cy 1, .boolean), (cy 2, .object "OnionProbate$Onion"), (cy 3, .object "OnionProbate$Image"), (cy 4, .array .int)]
def Wd (D : va_G) (cy : Nat → ClassId) (base n : Nat) (P : rfm) (M : inm) (s : State) (H : Heap) : Prop :=
  va_K D vwCl (tysOf cy) s ∧ va_P D vwCl (wsOf base cy n P M) H ∧ (n < 303 → H.size = base + n) ∧ (∀ k i, inR (M k i)) ∧ ∀ k i, n ≤ k → M k i = 0 ∧ P k i = none
theorem ws_get {base n k : Nat} {cy : Nat → ClassId} {P : rfm} {M : inm} (h : k < n) : (wsOf base cy n P M)[k]? = some (base + k, ent base cy P M k) := by
  unfold wsOf
  rw [List.getElem?_map, List.getElem?_range h]
  rfl
theorem ws_none {base n k : Nat} {cy : Nat → ClassId} {P : rfm} {M : inm} (h : n ≤ k) : (wsOf base cy n P M)[k]? = none := by
  unfold wsOf
  exact List.getElem?_eq_none (by simpa using h)
theorem ws_inv {base n k : Nat} {cy : Nat → ClassId} {P : rfm} {M : inm} {q : Nat × va_E} (h : (wsOf base cy n P M)[k]? = some q) : k < n ∧ q = (base + k, ent base cy P M k) := by
  by_cases hk : k < n
  · rw [ws_get hk] at h
    exact ⟨hk, (Option.some.inj h).symm⟩
  · rw [ws_none (by omega)] at h
    cases h
theorem ws_set {base n k : Nat} {cy : Nat → ClassId} {P P' : rfm} {M M' : inm} {e : va_E} (h : k < n) (he : ent base cy P' M' k = e) (ho : ∀ j, j ≠ k → ent base cy P' M' j = ent base cy P M j) : (wsOf base cy n P M).set k (base + k, e) = wsOf base cy n P' M' := by
  apply List.ext_getElem?
  intro i
  by_cases hi : i < n
  · rw [ws_get hi]
    by_cases hik : i = k
    · subst hik
      rw [List.getElem?_set_self (by unfold wsOf; simpa using h), he]
    · rw [List.getElem?_set_ne (Ne.symm hik), ws_get hi, ho i hik]
  · rw [ws_none (by omega)]
    exact List.getElem?_eq_none (by unfold wsOf; simp; omega)
theorem ws_D {base n : Nat} {cy : Nat → ClassId} {P : rfm} {M : inm} : va_D (fun q => base ≤ q) (wsOf base cy n P M) := by
  refine ⟨fun i j x y hi hj hxy => ?_, fun k q hk => ?_⟩
  · obtain ⟨-, rfl⟩ := ws_inv hi
    obtain ⟨-, rfl⟩ := ws_inv hj
    have h : base + i = base + j := hxy
    omega
  · obtain ⟨-, rfl⟩ := ws_inv hk
    exact Nat.le_add_right base k
theorem ent_obj {base k c : Nat} {cy : Nat → ClassId} {P : rfm} {M : inm} (h : kd k = c) (hc : c < 11) : ent base cy P M k = .inr (c, flds base P M k c) := by
  unfold ent
  rw [h, if_pos hc]
theorem ent_ints {base k : Nat} {cy : Nat → ClassId} {P : rfm} {M : inm} (h : kd k = 11) : ent base cy P M k = .inl (cy 0, ln k, .inl (fun i => Int32.ofInt (M k i))) := by
  unfold ent
  rw [h, if_neg (by decide), if_pos (by decide)]
theorem ent_bools {base k : Nat} {cy : Nat → ClassId} {P : rfm} {M : inm} (h : kd k = 12) : ent base cy P M k = .inl (cy 1, ln k, .inl (fun i => Int32.ofInt (M k i))) := by
  unfold ent
  rw [h, if_neg (by decide), if_pos (by decide)]
theorem ent_refs {base k c : Nat} {cy : Nat → ClassId} {P : rfm} {M : inm} (h : kd k = c + 11) (hc : 2 ≤ c) : ent base cy P M k = .inl (cy c, ln k, .inr (.inr (.inr (.inr (fun i => (P k i).map (fun r => base + r)))))) := by
  unfold ent
  rw [h, if_neg (by omega), if_neg (by omega), show c + 11 - 11 = c by omega]
theorem flds_at {base k c j : Nat} {P : rfm} {M : inm} (h : j < nf c) : (flds base P M k c)[j]? = some (if rfq c j = true then va_rf ((P k j).map (fun r => base + r)) else .int (Int32.ofInt (M k j))) := by
  unfold flds
  rw [List.getElem?_map, List.getElem?_range h]
  rfl
theorem flds_len {base k c : Nat} {P : rfm} {M : inm} : (flds base P M k c).length = nf c := by
  unfold flds
  simp
theorem flds_setI {base k c j : Nat} {P : rfm} {M : inm} {z : Int} (h : rfq c j = false) : (flds base P M k c).set j (.int (Int32.ofInt z)) = flds base P (up2 M k j z) k c := by
  apply List.ext_getElem?
  intro i
  by_cases hi : i < nf c
  · rw [flds_at hi]
    by_cases hij : i = j
    · subst hij
      rw [List.getElem?_set_self (by rw [flds_len]; exact hi), if_neg (by rw [h]; decide)]
      simp [up2]
    · rw [List.getElem?_set_ne (Ne.symm hij), flds_at hi]
      simp [up2, hij]
  · rw [List.getElem?_eq_none (by rw [List.length_set, flds_len]; omega), List.getElem?_eq_none (by rw [flds_len]; omega)]
theorem flds_setR {base k c j r : Nat} {P : rfm} {M : inm} (h : rfq c j = true) : (flds base P M k c).set j (.ref (base + r)) = flds base (up2 P k j (some r)) M k c := by
  apply List.ext_getElem?
  intro i
  by_cases hi : i < nf c
  · rw [flds_at hi]
    by_cases hij : i = j
    · subst hij
      rw [List.getElem?_set_self (by rw [flds_len]; exact hi), if_pos h]
      simp [up2, va_rf]
    · rw [List.getElem?_set_ne (Ne.symm hij), flds_at hi]
      simp [up2, hij]
  · rw [List.getElem?_eq_none (by rw [List.length_set, flds_len]; omega), List.getElem?_eq_none (by rw [flds_len]; omega)]
theorem ent_otherI {base a i j : Nat} {cy : Nat → ClassId} {P : rfm} {M : inm} {z : Int} (h : j ≠ a) : ent base cy P (up2 M a i z) j = ent base cy P M j := by
  have e : ∀ x, up2 M a i z j x = M j x := fun x => by simp [up2, h]
  unfold ent flds
  simp only [e]
theorem ent_otherR {base a i j : Nat} {cy : Nat → ClassId} {P : rfm} {M : inm} {r : Option Nat} (h : j ≠ a) : ent base cy (up2 P a i r) M j = ent base cy P M j := by
  have e : ∀ x, up2 P a i r j x = P j x := fun x => by simp [up2, h]
  unfold ent flds
  simp only [e]
/-! ===== the judgement ===== -/
def TB : List Cond := lw_tbl.filter goodWord
def isNest (w : Cond) : Bool := match w with
  | .fieldLinkNest _ _ _ _ _ _ => true
  | .methodLinkNest _ _ _ _ => true
  | .arrayOver _ => true
  | _ => false
def NT : List Cond := lw_tbl.filter isNest
theorem over_any {ty : FieldType} {u U : State} (hvm : u.vm.Alike U.vm) (hz : va_Nw (.arrayOver ty) u) : va_Nw (.arrayOver ty) U := by
  cases ty with
  | object C => exact va_AO.moved hvm hz
  | array t => exact over_moved hvm hz
  | _ => exact absurd hz (by simp [va_Nw, Cond.before, Cond.holds, Cond.value])
theorem nest_same {w : Cond} (h : w ∈ NT) {u U : State} (e : u.vm = U.vm) (hz : va_Nw w u) : va_Nw w U := by
  have h1 := (List.mem_filter.mp h).2
  cases w <;> first | exact va_Nw.same rfl e hz | exact over_any (by rw [e]; exact Vm.Alike.refl _) hz | (exact absurd h1 (by simp [isNest]))
theorem nest_warm {w : Cond} (h : w ∈ NT) {s U : State} (hW : s.WarmedH U.vm) (hz : va_Nw w s) : va_Nw w U := by
  have h1 := (List.mem_filter.mp h).2
  cases w <;> first | exact va_Nw.warmF hW hz | exact va_Nw.warmM hW hz | exact over_any hW.alike hz | (exact absurd h1 (by simp [isNest]))
def Cx (y : MethodName) (cc : ByteArray) (nL t : Nat) (ret : Option FieldType) (p : Program) (R : Room) (s : State) (m : MethodId) (args : Array Value) (meth : Method) (c : Code) : Prop :=
  p.tables.exec = Jvm.exec ∧ c.code = cc ∧ c.maxLocals = nL ∧ s.vm.findClass y.cls = some m.cls ∧ (∀ w ∈ TB, w.before args s = true) ∧ meth.sig.returnType = ret ∧ meth.locks = false ∧ (y.name = "<init>" → meth.name = "<init>") ∧ t ≤ R.frames ∧ 35 * t ≤ R.locals ∧ ∀ w ∈ NT, va_Nw w s
def retAt (cc : ByteArray) (ret : Option FieldType) (pc : Nat) (v : Option PV) : Prop := match v, ret with
  | none, none => decode cc pc = .ok (.return_, 1)
  | some (.inl z), some ty => decode cc pc = .ok (.ireturn, 1) ∧ narrow ty (.int (Int32.ofInt z)) = .int (Int32.ofInt z)
  | _, _ => False
abbrev Post : Type := Option PV → Nat → rfm → inm → Prop
def Eg (cc : ByteArray) (ret : Option FieldType) (p : Program) (l : Launch) (e : Env) (R : Room) (s : State) (m : MethodId) (args : Array Value) (below : List Frame) (meth : Method) (c : Code) (base b : Nat) (D : va_G) (cy : Nat → ClassId) (Qf : State → Prop) (Q : Post) : Prop :=
  ∀ (v : Option PV) (n : Nat) (P : rfm) (M : inm) (H : Heap) (locs : List Loc) (cells slots pc : Nat) (ls : Array Slot), Q v n P M → Wd D cy base n P M s H → va_S (fun q => base ≤ q) s.heap H locs → cells ≤ R.cells → slots ≤ R.slots → (∀ x ∈ v.toList, okV x) → retAt cc ret pc v →
    W p l e R s m args below meth c H locs cells slots Qf (F0 m pc ls (v.toList.map (rv base b)))
def Hy (S : Nat × (Nat → Int32)) (y : MethodName) (cc : ByteArray) (nL t mc ms : Nat) (ret : Option FieldType) (p : Program) (l : Launch) (e : Env) (R : Room) (s : State) (m : MethodId) (args : Array Value) (below : List Frame) (meth : Method) (c : Code) (H : Heap) (locs : List Loc) (cells slots base b : Nat) (D : va_G) (cy : Nat → ClassId) (Qf : State → Prop) (n : Nat) (P : rfm) (M : inm) (Q : Post) : Prop :=
  Cx y cc nL t ret p R s m args meth c ∧ (y.cls = "OnionProbateLaw" → va_X b S.1 S.2 s s.heap ∧ b < base) ∧ base ≤ s.heap.size ∧ Wd D cy base n P M s H ∧ va_S (fun q => base ≤ q) s.heap H locs ∧ (cells + mc ≤ R.cells ∧ slots + ms ≤ R.slots) ∧ Eg cc ret p l e R s m args below meth c base b D cy Qf Q
/-- the method y, at pc with these locals, this stack and this memory, comes to an end with Q -/
def Go (S : Nat × (Nat → Int32)) (y : MethodName) (cc : ByteArray) (nL t mc ms : Nat) (ret : Option FieldType) (pc : Nat) (lv : List (Nat × PV)) (st : List PV) (n : Nat) (P : rfm) (M : inm) (Q : Post) : Prop :=
  ∀ (p : Program) (l : Launch) (e : Env) (R : Room) (s : State) (m : MethodId) (args : Array Value) (below : List Frame) (meth : Method) (c : Code) (H : Heap) (locs : List Loc) (cells slots base b : Nat) (D : va_G) (cy : Nat → ClassId) (ls : Array Slot) (Qf : State → Prop),
    Hy S y cc nL t mc ms ret p l e R s m args below meth c H locs cells slots base b D cy Qf n P M Q → lv_has ls nL (lv.map (fun q => (q.1, rv base b q.2))) → (∀ q ∈ lv, okV q.2) → (∀ v ∈ st, okV v) →
    W p l e R s m args below meth c H locs cells slots Qf (F0 m pc ls (st.map (rv base b)))
section GoRows
variable {S : Nat × (Nat → Int32)} {y : MethodName} {cc : ByteArray} {nL t mc ms : Nat} {ret : Option FieldType} {pc : Nat} {lv : List (Nat × PV)} {st : List PV} {n : Nat} {P : rfm} {M : inm} {Q : Post}
theorem ok_cons {v : PV} {st : List PV} (h : okV v) (hs : ∀ x ∈ st, okV x) : ∀ x ∈ v :: st, okV x := fun x hx => by
  rcases List.mem_cons.mp hx with rfl | hx
  · exact h
  · exact hs x hx
theorem ok_tail {v : PV} {st : List PV} (hs : ∀ x ∈ v :: st, okV x) : ∀ x ∈ st, okV x := fun x hx => hs x (List.mem_cons_of_mem _ hx)
theorem ok_head {v : PV} {st : List PV} (hs : ∀ x ∈ v :: st, okV x) : okV v := hs v List.mem_cons_self
theorem lvm_at {lv : List (Nat × PV)} {j i base b : Nat} {v : PV} (h : lv[j]? = some (i, v)) : (lv.map (fun q => (q.1, rv base b q.2)))[j]? = some (i, rv base b v) := by
  rw [List.getElem?_map, h]
  rfl
theorem ok_at {lv : List (Nat × PV)} {j i : Nat} {v : PV} (ol : ∀ q ∈ lv, okV q.2) (h : lv[j]? = some (i, v)) : okV v := ol (i, v) (List.mem_of_getElem? h)
/-- a name for what is known of the ints in reach -/
theorem go_rng (k : (∀ a i, inR (M a i)) → Go S y cc nL t mc ms ret pc lv st n P M Q) : Go S y cc nL t mc ms ret pc lv st n P M Q := by
  intro p l e R s m args below meth c H locs cells slots base b D cy ls Qf hy hl ol os
  exact k hy.2.2.2.1.2.2.2.1 p l e R s m args below meth c H locs cells slots base b D cy ls Qf hy hl ol os
theorem go_top {z : Int} (k : inR z → Go S y cc nL t mc ms ret pc lv (vI z :: st) n P M Q) : Go S y cc nL t mc ms ret pc lv (vI z :: st) n P M Q := by
  intro p l e R s m args below meth c H locs cells slots base b D cy ls Qf hy hl ol os
  exact k (ok_head os) p l e R s m args below meth c H locs cells slots base b D cy ls Qf hy hl ol os
theorem go_loc {z : Int} (j : Nat) {i : Nat} (h : lv[j]? = some (i, vI z)) (k : inR z → Go S y cc nL t mc ms ret pc lv st n P M Q) : Go S y cc nL t mc ms ret pc lv st n P M Q := by
  intro p l e R s m args below meth c H locs cells slots base b D cy ls Qf hy hl ol os
  exact k (ok_at ol h) p l e R s m args below meth c H locs cells slots base b D cy ls Qf hy hl ol os
/-- fewer locals, or in another order -/
theorem go_lv {lv' : List (Nat × PV)} (ks : List Nat) (h : ks.filterMap (fun k => lv[k]?) = lv') (k : Go S y cc nL t mc ms ret pc lv' st n P M Q) : Go S y cc nL t mc ms ret pc lv st n P M Q := by
  intro p l e R s m args below meth c H locs cells slots base b D cy ls Qf hy hl ol os
  have hm : ∀ q ∈ lv', q ∈ lv := fun q hq => by
    rw [← h] at hq
    obtain ⟨i, -, hi⟩ := List.mem_filterMap.mp hq
    exact List.mem_of_getElem? hi
  refine k p l e R s m args below meth c H locs cells slots base b D cy ls Qf hy ⟨hl.1, hl.2.1, fun q hq => ?_⟩ (fun q hq => ol q (hm q hq)) os
  obtain ⟨q0, h0, rfl⟩ := List.mem_map.mp hq
  exact hl.2.2 _ (List.mem_map.mpr ⟨q0, hm q0 h0, rfl⟩)
theorem go_eq {lv' : List (Nat × PV)} {st' : List PV} {n' : Nat} {P' : rfm} {M' : inm} (h1 : lv = lv') (h2 : st = st') (h3 : n = n') (h4 : P = P') (h5 : M = M') (k : Go S y cc nL t mc ms ret pc lv' st' n' P' M' Q) : Go S y cc nL t mc ms ret pc lv st n P M Q := by
  subst h1; subst h2; subst h3; subst h4; subst h5
  exact k
theorem go_m {M' : inm} (h5 : M = M') (k : Go S y cc nL t mc ms ret pc lv st n P M' Q) : Go S y cc nL t mc ms ret pc lv st n P M Q := by
  subst h5
  exact k
theorem go_post {Q' : Post} (h : ∀ v n P M, Q' v n P M → Q v n P M) (k : Go S y cc nL t mc ms ret pc lv st n P M Q') : Go S y cc nL t mc ms ret pc lv st n P M Q := by
  intro p l e R s m args below meth c H locs cells slots base b D cy ls Qf hy hl ol os
  exact k p l e R s m args below meth c H locs cells slots base b D cy ls Qf ⟨hy.1, hy.2.1, hy.2.2.1, hy.2.2.2.1, hy.2.2.2.2.1, hy.2.2.2.2.2.1, fun v n P M H locs cells slots pc ls q => hy.2.2.2.2.2.2 v n P M H locs cells slots pc ls (h v n P M q)⟩ hl ol os
end GoRows
