/-! ===== rows of the judgement: fields and arrays ===== -/
def Lk (own : String) (idx ci k : Nat) : Prop := ∃ (C : String) (T : u_T) (N : Nat), vwCl[ci]? = some (C, T, N) ∧ nf ci = N ∧ k < N ∧ ci < 11 ∧ (∀ w ∈ u_ws C T N, w ∈ TB) ∧ (Cond.fieldLink own idx (T k).1 (T k).2.1 (T k).2.2.1 ∈ TB ∨ ∃ host, Cond.fieldLinkNest own idx (T k).1 (T k).2.1 (T k).2.2.1 host ∈ NT)
def Lp (own : String) (idx ci k : Nat) (fin : Bool) (tyk : FieldType) : Prop := ∃ (T : u_T) (N : Nat) (ty : Nat → FieldType), vwCl[ci]? = some (own, T, N) ∧ nf ci = N ∧ k < N ∧ ci < 11 ∧ (∀ w ∈ u_ws own T N, w ∈ TB) ∧ (∀ k, k < N → parseFieldDescriptor (T k).2.2.1 = some (ty k)) ∧ (∀ a, a < N → ∀ b, b < N → a ≠ b → (T a).2.1 ≠ (T b).2.1) ∧ (T k).1 = own ∧ (T k).2.2.2 = fin ∧ ty k = tyk ∧ Cond.fieldLink own idx (T k).1 (T k).2.1 (T k).2.2.1 ∈ TB
def Ln (own : String) (idx ci k : Nat) (tyk : FieldType) : Prop := ∃ (C : String) (T : u_T) (N : Nat) (ty : Nat → FieldType) (host : String), vwCl[ci]? = some (C, T, N) ∧ nf ci = N ∧ k < N ∧ ci < 11 ∧ (∀ w ∈ u_ws C T N, w ∈ TB) ∧ (∀ k, k < N → parseFieldDescriptor (T k).2.2.1 = some (ty k)) ∧ (∀ a, a < N → ∀ b, b < N → a ≠ b → (T a).2.1 ≠ (T b).2.1) ∧ (T k).2.2.2 = false ∧ ty k = tyk ∧ Cond.fieldLinkNest own idx (T k).1 (T k).2.1 (T k).2.2.1 host ∈ NT
theorem Lp.get {own : String} {idx ci k : Nat} {fin : Bool} {ty : FieldType} (h : Lp own idx ci k fin ty) : Lk own idx ci k := by
  obtain ⟨T, N, ty0, h1, h2, h3, h4, h5, h6, h7, h8, h9, h10, h11⟩ := h
  exact ⟨own, T, N, h1, h2, h3, h4, h5, Or.inl h11⟩
theorem Ln.get {own : String} {idx ci k : Nat} {ty : FieldType} (h : Ln own idx ci k ty) : Lk own idx ci k := by
  obtain ⟨C, T, N, ty0, host, h1, h2, h3, h4, h5, h6, h7, h9, h10, h11⟩ := h
  exact ⟨C, T, N, h1, h2, h3, h4, h5, Or.inr ⟨host, h11⟩⟩
theorem mem_TB {w : Cond} (i : Nat) (h : lw_tbl[i]? = some w) (hg : goodWord w = true) : w ∈ TB := List.mem_filter.mpr ⟨List.mem_of_getElem? h, hg⟩
theorem mem_NT {w : Cond} (i : Nat) (h : lw_tbl[i]? = some w) (hg : isNest w = true) : w ∈ NT := List.mem_filter.mpr ⟨List.mem_of_getElem? h, hg⟩
theorem mem_TBs (ws : List Cond) (ps : List Nat) (hp : ws = ps.filterMap (fun i => lw_tbl[i]?)) (h : ws.all goodWord = true) : ∀ w ∈ ws, w ∈ TB := by
  intro w hw
  have h1 := List.all_eq_true.mp h w hw
  rw [hp] at hw
  obtain ⟨i, -, hi⟩ := List.mem_filterMap.mp hw
  exact mem_TB i hi h1
theorem wd_put {D : va_G} {cy : Nat → ClassId} {base n a i : Nat} {P : rfm} {M : inm} {s : State} {H H1 : Heap} {z : Int} (h : Wd D cy base n P M s H) (ha : a < n) (hz : inR z) (hP : va_P D vwCl (wsOf base cy n P (up2 M a i z)) H1) (hs : n < 303 → H1.size = H.size) : Wd D cy base n P (up2 M a i z) s H1 := by
  refine ⟨h.1, hP, fun hn => (hs hn).trans (h.2.2.1 hn), fun k j => ?_, fun k j hk => ?_⟩
  · unfold up2
    split
    · exact hz
    · exact h.2.2.2.1 k j
  · unfold up2
    rw [if_neg (by omega)]
    exact h.2.2.2.2 k j hk
theorem wd_putR {D : va_G} {cy : Nat → ClassId} {base n a i : Nat} {P : rfm} {M : inm} {s : State} {H H1 : Heap} {r : Option Nat} (h : Wd D cy base n P M s H) (ha : a < n) (hP : va_P D vwCl (wsOf base cy n (up2 P a i r) M) H1) (hs : n < 303 → H1.size = H.size) : Wd D cy base n (up2 P a i r) M s H1 := by
  refine ⟨h.1, hP, fun hn => (hs hn).trans (h.2.2.1 hn), h.2.2.2.1, fun k j hk => ?_⟩
  unfold up2
  rw [if_neg (by omega)]
  exact h.2.2.2.2 k j hk
section PutZ
variable {p : Program} {l : Launch} {e : Env} {R : Room} {s : State} {m : MethodId} {args : Array Value} {below : List Frame} {meth : Method} {c : Code} {H : Heap} {locs : List Loc} {cells slots : Nat} {Q : State → Prop} {cc : ByteArray} {pc : Nat} {ls : Array Slot} {rest : List Value} {D : va_G} {cl : List vw_C} {A : Nat → Prop} {a : Nat} {tys : List (ClassId × FieldType)} {ws : va_W} {H0 : Heap}
/-- a field is put; the heap keeps its size -/
theorem put_z (hx : p.tables.exec = Jvm.exec) (hb : c.code = cc) {own C : String} {T : u_T} {N ci idx : Nat} (hts : ∀ w ∈ TB, w.before args s = true) (hin : ∀ w ∈ u_ws C T N, w ∈ TB) (ty0 : Nat → FieldType) (hty : ∀ k, k < N → parseFieldDescriptor (T k).2.2.1 = some (ty0 k)) (hnm : ∀ a, a < N → ∀ b, b < N → a ≠ b → (T a).2.1 ≠ (T b).2.1) (hown : s.vm.findClass own = some m.cls) (hK : va_K D cl tys s) (hP : va_P D cl ws H) (hD : va_D A ws) (hS : va_S A H0 H locs) (q0 : Nat) {fs : List Value} (he : ws[q0]? = some (a, .inr (ci, fs))) (hc : cl[ci]? = some (C, T, N)) (k : Nat) (hk : k < N) (hlink : (Cond.fieldLink own idx (T k).1 (T k).2.1 (T k).2.2.1).before args s = true) (hf : (T k).2.2.2 = false ∨ ((T k).2.2.2 = true ∧ meth.name = "<init>" ∧ (T k).1 = own)) {ty : FieldType} {v : Value} (hd : parseFieldDescriptor (T k).2.2.1 = some ty) (hn : narrow ty v = v) (hfit : fits ty v = true) (hl : k < fs.length) (d : decode cc pc = .ok (.putfield idx, 3))
    (kk : ∀ (H1 : Heap) (locs1 : List Loc), va_P D cl (ws.set q0 (a, .inr (ci, fs.set k v))) H1 → va_S A H0 H1 locs1 → H1.size = H.size → W p l e R s m args below meth c H1 locs1 cells slots Q (F0 m (pc + 3) ls rest)) : W p l e R s m args below meth c H locs cells slots Q (F0 m pc ls (v :: .ref a :: rest)) := by
  have hap := va_apart (own := own) hts hin ty0 hty hnm hK hc
  obtain ⟨r, h1, cell, q1, q2, q3, q4⟩ := hP q0 _ he
  have hr : r = (C, T, N) := Option.some.inj (h1.symm.trans hc)
  subst hr
  obtain ⟨hSl, hfc, kC, hkC, hkind⟩ := hK.1 ci _ hc
  obtain ⟨cf, kf, fi, f, hi, hsl⟩ := hSl k hk
  have hlay := hts _ (hin _ (u_in_lay hk))
  unfold u_lay at hlay
  have hst := (u_facts hfc hkC (u_lays hts hin hk) hi).1
  have last : ∀ H' : Heap, H'[a]? = some (cell.setSlot f.slot v) → H'.size = H.size → (∀ q, q ≠ a → H'[q]? = H[q]?) → W p l e R s m args below meth c H' (locs ++ [⟨a, f.slot⟩]) cells slots Q (F0 m (pc + 3) ls rest) := by
    intro H' e1 e2 e3
    rw [hsl] at e1 ⊢
    exact kk H' _ (hP.set hD he ⟨_, hc, t_OB.to (V := updV (vp_V fs) k v) ⟨_, e1, q2, q3, t_set q4 hap hk v⟩ (fun j _ => vp_updV_set hl v j)⟩ e3) (hS.put e2 e3 (hD.2 q0 _ he)) e2
  rcases hf with hfin | ⟨hfin, hin2, hdecl⟩
  · rw [if_neg (by rw [hfin]; decide)] at hlay
    have h6 := u_store hfc hkC hkind hlay hi hd hn hfit
    exact W.putK hx hb (f := f) ⟨hown, hlink, ⟨_, _, _, hi⟩, hst⟩ (by rw [q2]; exact h6) q1 q3 (by rw [hsl]; exact k2_hasslot (q4 k hk)) rfl rfl d last
  · rw [if_pos hfin] at hlay
    have hcf : m.cls = cf := by
      obtain ⟨_, _, c', _, _, _, -, -, hf', -, -, -, hown2, -⟩ := Cond.laysFinal_spec hlay
      have e1 : c' = cf := by have := hi.symm.trans hf'; simp at this; exact this.1.symm
      rw [hdecl] at hown2
      rw [← e1]; exact Option.some.inj (hown.symm.trans hown2)
    have h6 := u_fits hfc hkC hkind (Or.inr hlay) hi hd hn hfit
    exact W.putFinK hx hb hown hlink hi hst hcf hin2 (by rw [q2]; exact h6) q1 q3 (by rw [hsl]; exact k2_hasslot (q4 k hk)) rfl rfl d last
end PutZ
section GoMem
variable {S : Nat × (Nat → Int32)} {y : MethodName} {cc : ByteArray} {nL t mc ms : Nat} {ret : Option FieldType} {pc : Nat} {lv : List (Nat × PV)} {st : List PV} {n : Nat} {P : rfm} {M : inm} {Q : Post}
theorem go_getI {idx ci f a : Nat} (d : decode cc pc = .ok (.getfield idx, 3)) (hL : Lk y.cls idx ci f) (hk : kd a = ci) (ha : a < n) (hr : rfq ci f = false) (k : Go S y cc nL t mc ms ret (pc + 3) lv (vI (M a f) :: st) n P M Q) : Go S y cc nL t mc ms ret pc lv (vR a :: st) n P M Q := by
  intro p l e R s m args below meth c H locs cells slots base b D cy ls Qf hy hl ol os
  obtain ⟨C, T, N, h1, h2, h3, h4, h5, h11⟩ := hL
  have hv : (flds base P M a ci)[f]? = some (.int (Int32.ofInt (M a f))) := by rw [flds_at (by rw [h2]; exact h3), if_neg (by rw [hr]; decide)]
  have he : (wsOf base cy n P M)[a]? = some (base + a, .inr (ci, flds base P M a ci)) := by rw [ws_get ha, ent_obj hk h4]
  have hW := hy.2.2.2.1
  have K := k _ _ _ _ _ _ _ _ _ _ _ _ _ _ _ _ _ _ _ _ hy hl ol (ok_cons (v := vI (M a f)) (hW.2.2.2.1 a f) (ok_tail os))
  rcases h11 with h11 | ⟨host, h11⟩
  · exact va_get hy.1.1 hy.1.2.1 hy.1.2.2.2.2.1 h5 hy.1.2.2.2.1 hW.1 hW.2.1 a he h1 f h3 (hy.1.2.2.2.2.1 _ h11) (fun x h => h) hv d K
  · exact va_getN hy.1.1 hy.1.2.1 hy.1.2.2.2.2.1 h5 hy.1.2.2.2.1 hW.1 hW.2.1 a he h1 f h3 (va_Nw.use rfl (hy.1.2.2.2.2.2.2.2.2.2.2 _ h11)) (fun x h => h) hv d K
theorem go_getR {idx ci f a r : Nat} (d : decode cc pc = .ok (.getfield idx, 3)) (hL : Lk y.cls idx ci f) (hk : kd a = ci) (ha : a < n) (hr : rfq ci f = true) (hp : P a f = some r) (k : Go S y cc nL t mc ms ret (pc + 3) lv (vR r :: st) n P M Q) : Go S y cc nL t mc ms ret pc lv (vR a :: st) n P M Q := by
  intro p l e R s m args below meth c H locs cells slots base b D cy ls Qf hy hl ol os
  obtain ⟨C, T, N, h1, h2, h3, h4, h5, h11⟩ := hL
  have hv : (flds base P M a ci)[f]? = some (.ref (base + r)) := by rw [flds_at (by rw [h2]; exact h3), if_pos hr, hp]; rfl
  have he : (wsOf base cy n P M)[a]? = some (base + a, .inr (ci, flds base P M a ci)) := by rw [ws_get ha, ent_obj hk h4]
  have hW := hy.2.2.2.1
  have K := k _ _ _ _ _ _ _ _ _ _ _ _ _ _ _ _ _ _ _ _ hy hl ol (ok_cons (v := vR r) trivial (ok_tail os))
  rcases h11 with h11 | ⟨host, h11⟩
  · exact va_get hy.1.1 hy.1.2.1 hy.1.2.2.2.2.1 h5 hy.1.2.2.2.1 hW.1 hW.2.1 a he h1 f h3 (hy.1.2.2.2.2.1 _ h11) (fun x h => h) hv d K
  · exact va_getN hy.1.1 hy.1.2.1 hy.1.2.2.2.2.1 h5 hy.1.2.2.2.1 hW.1 hW.2.1 a he h1 f h3 (va_Nw.use rfl (hy.1.2.2.2.2.2.2.2.2.2.2 _ h11)) (fun x h => h) hv d K
theorem put_aux {p : Program} {l : Launch} {e : Env} {R : Room} {s : State} {m : MethodId} {args : Array Value} {below : List Frame} {meth : Method} {c : Code} {H : Heap} {locs : List Loc} {cells slots base b : Nat} {D : va_G} {cy : Nat → ClassId} {ls : Array Slot} {Qf : State → Prop} {idx ci f a : Nat} {fin : Bool} {ty : FieldType} {v : Value} {P' : rfm} {M' : inm} {rs : List Value} (d : decode cc pc = .ok (.putfield idx, 3)) (hL : Lp y.cls idx ci f fin ty ∨ (Ln y.cls idx ci f ty ∧ n = 303)) (hk : kd a = ci) (ha : a < n) (hf : fin = false ∨ y.name = "<init>")
    (hn : narrow ty v = v) (hfit : fits ty v = true) (hset : (flds base P M a ci).set f v = flds base P' M' a ci) (hoth : ∀ j, j ≠ a → ent base cy P' M' j = ent base cy P M j) (hW' : ∀ H1 : Heap, va_P D vwCl (wsOf base cy n P' M') H1 → (n < 303 → H1.size = H.size) → Wd D cy base n P' M' s H1)
    (hy : Hy S y cc nL t mc ms ret p l e R s m args below meth c H locs cells slots base b D cy Qf n P M Q)
    (k : ∀ (H1 : Heap) (locs1 : List Loc), Hy S y cc nL t mc ms ret p l e R s m args below meth c H1 locs1 cells slots base b D cy Qf n P' M' Q → W p l e R s m args below meth c H1 locs1 cells slots Qf (F0 m (pc + 3) ls rs)) : W p l e R s m args below meth c H locs cells slots Qf (F0 m pc ls (v :: .ref (base + a) :: rs)) := by
  have hW := hy.2.2.2.1
  have fin' : ci < 11 → ∀ (H1 : Heap) (locs1 : List Loc), va_P D vwCl ((wsOf base cy n P M).set a (base + a, .inr (ci, (flds base P M a ci).set f v))) H1 → va_S (fun q => base ≤ q) s.heap H1 locs1 → (n < 303 → H1.size = H.size) → W p l e R s m args below meth c H1 locs1 cells slots Qf (F0 m (pc + 3) ls rs) := by
    intro h4 H1 locs1 hP1 hS1 hz
    rw [ws_set (P' := P') (M' := M') ha (by rw [ent_obj hk h4, hset]) hoth] at hP1
    exact k H1 locs1 ⟨hy.1, hy.2.1, hy.2.2.1, hW' H1 hP1 hz, hS1, hy.2.2.2.2.2.1, hy.2.2.2.2.2.2⟩
  rcases hL with ⟨T, N, ty0, h1, h2, h3, h4, h5, h6, h7, h8, h9, h10, h11⟩ | ⟨⟨C, T, N, ty0, host, h1, h2, h3, h4, h5, h6, h7, h9, h10, h11⟩, hn3⟩
  · have he : (wsOf base cy n P M)[a]? = some (base + a, .inr (ci, flds base P M a ci)) := by rw [ws_get ha, ent_obj hk h4]
    have hlen : f < (flds base P M a ci).length := by rw [flds_len, h2]; exact h3
    have hd : parseFieldDescriptor (T f).2.2.1 = some ty := by rw [h6 f h3, h10]
    refine put_z hy.1.1 hy.1.2.1 hy.1.2.2.2.2.1 h5 ty0 h6 h7 hy.1.2.2.2.1 hW.1 hW.2.1 ws_D hy.2.2.2.2.1 a he h1 f h3 (hy.1.2.2.2.2.1 _ h11) ?_ hd hn hfit hlen d (fun H1 locs1 q1 q2 q3 => fin' h4 H1 locs1 q1 q2 (fun _ => q3))
    cases fin with
    | false => exact Or.inl h9
    | true => exact Or.inr ⟨h9, hy.1.2.2.2.2.2.2.2.1 (hf.resolve_left (by decide)), h8⟩
  · have he : (wsOf base cy n P M)[a]? = some (base + a, .inr (ci, flds base P M a ci)) := by rw [ws_get ha, ent_obj hk h4]
    have hlen : f < (flds base P M a ci).length := by rw [flds_len, h2]; exact h3
    have hd : parseFieldDescriptor (T f).2.2.1 = some ty := by rw [h6 f h3, h10]
    exact va_putN hy.1.1 hy.1.2.1 hy.1.2.2.2.2.1 h5 ty0 h6 h7 hy.1.2.2.2.1 hW.1 hW.2.1 ws_D hy.2.2.2.2.1 a he h1 f h3 (va_Nw.use rfl (hy.1.2.2.2.2.2.2.2.2.2.2 _ h11)) (fun x h => h) h9 hd hn hfit hlen d (fun H1 locs1 q1 _ q2 => fin' h4 H1 locs1 q1 q2 (fun h => absurd h (by omega)))
theorem go_putI {idx ci f a : Nat} {z : Int} {fin : Bool} (d : decode cc pc = .ok (.putfield idx, 3)) (hL : Lp y.cls idx ci f fin .int ∨ (Ln y.cls idx ci f .int ∧ n = 303)) (hk : kd a = ci) (ha : a < n) (hr : rfq ci f = false) (hf : fin = false ∨ y.name = "<init>") (k : Go S y cc nL t mc ms ret (pc + 3) lv st n P (up2 M a f z) Q) : Go S y cc nL t mc ms ret pc lv (vI z :: vR a :: st) n P M Q := by
  intro p l e R s m args below meth c H locs cells slots base b D cy ls Qf hy hl ol os
  exact put_aux d hL hk ha hf rfl rfl (flds_setI hr) (fun j hj => ent_otherI hj) (fun H1 hP hz => wd_put hy.2.2.2.1 ha (ok_head os) hP hz) hy (fun H1 locs1 hy1 => k _ _ _ _ _ _ _ _ _ _ _ _ _ _ _ _ _ _ _ _ hy1 hl ol (ok_tail (ok_tail os)))
theorem nar_bool {z : Int} (h : z = 0 ∨ z = 1) : narrow .boolean (.int (Int32.ofInt z)) = .int (Int32.ofInt z) := by
  rcases h with rfl | rfl <;> rfl
theorem go_putZ {idx ci f a : Nat} {z : Int} {fin : Bool} (d : decode cc pc = .ok (.putfield idx, 3)) (hL : Lp y.cls idx ci f fin .boolean ∨ (Ln y.cls idx ci f .boolean ∧ n = 303)) (hk : kd a = ci) (ha : a < n) (hr : rfq ci f = false) (hf : fin = false ∨ y.name = "<init>") (h01 : z = 0 ∨ z = 1) (k : Go S y cc nL t mc ms ret (pc + 3) lv st n P (up2 M a f z) Q) : Go S y cc nL t mc ms ret pc lv (vI z :: vR a :: st) n P M Q := by
  intro p l e R s m args below meth c H locs cells slots base b D cy ls Qf hy hl ol os
  exact put_aux d hL hk ha hf (nar_bool h01) (by rcases h01 with rfl | rfl <;> rfl) (flds_setI hr) (fun j hj => ent_otherI hj) (fun H1 hP hz => wd_put hy.2.2.2.1 ha (ok_head os) hP hz) hy (fun H1 locs1 hy1 => k _ _ _ _ _ _ _ _ _ _ _ _ _ _ _ _ _ _ _ _ hy1 hl ol (ok_tail (ok_tail os)))
theorem go_putR {idx ci f a r : Nat} {fin : Bool} {ty : FieldType} (d : decode cc pc = .ok (.putfield idx, 3)) (hL : Lp y.cls idx ci f fin ty ∨ (Ln y.cls idx ci f ty ∧ n = 303)) (hty : ty.isReference = true) (hk : kd a = ci) (ha : a < n) (hr : rfq ci f = true) (hf : fin = false ∨ y.name = "<init>") (k : Go S y cc nL t mc ms ret (pc + 3) lv st n (up2 P a f (some r)) M Q) : Go S y cc nL t mc ms ret pc lv (vR r :: vR a :: st) n P M Q := by
  intro p l e R s m args below meth c H locs cells slots base b D cy ls Qf hy hl ol os
  exact put_aux d hL hk ha hf (by cases ty <;> first | rfl | cases hty) (by cases ty <;> first | rfl | cases hty) (flds_setR hr) (fun j hj => ent_otherR hj) (fun H1 hP hz => wd_putR hy.2.2.2.1 ha hP hz) hy (fun H1 locs1 hy1 => k _ _ _ _ _ _ _ _ _ _ _ _ _ _ _ _ _ _ _ _ hy1 hl ol (ok_tail (ok_tail os)))
theorem go_iaload {a : Nat} {i : Int} (d : decode cc pc = .ok (.iaload, 1)) (hk : kd a = 11) (ha : a < n) (h0 : 0 ≤ i) (h1 : i < (ln a : Int)) (k : Go S y cc nL t mc ms ret (pc + 1) lv (vI (M a i.toNat) :: st) n P M Q) : Go S y cc nL t mc ms ret pc lv (vI i :: vR a :: st) n P M Q := by
  intro p l e R s m args below meth c H locs cells slots base b D cy ls Qf hy hl ol os
  have hi : inR i := ok_head os
  have hW := hy.2.2.2.1
  refine va_iald hy.1.1 hy.1.2.1 hW.1 hW.2.1 a 0 (f := fun i => Int32.ofInt (M a i)) (by rw [ws_get ha, ent_ints hk]) rfl (oi_in hi h0 h1) d ?_
  rw [oi_clamp hi]
  exact k _ _ _ _ _ _ _ _ _ _ _ _ _ _ _ _ _ _ _ _ hy hl ol (ok_cons (v := vI (M a i.toNat)) (hW.2.2.2.1 _ _) (ok_tail (ok_tail os)))
theorem go_baload {a : Nat} {i : Int} (d : decode cc pc = .ok (.baload, 1)) (hk : kd a = 12) (ha : a < n) (h0 : 0 ≤ i) (h1 : i < (ln a : Int)) (k : Go S y cc nL t mc ms ret (pc + 1) lv (vI (M a i.toNat) :: st) n P M Q) : Go S y cc nL t mc ms ret pc lv (vI i :: vR a :: st) n P M Q := by
  intro p l e R s m args below meth c H locs cells slots base b D cy ls Qf hy hl ol os
  have hi : inR i := ok_head os
  have hW := hy.2.2.2.1
  refine va_zald hy.1.1 hy.1.2.1 hW.1 hW.2.1 a 1 (f := fun i => Int32.ofInt (M a i)) (by rw [ws_get ha, ent_bools hk]) rfl (oi_in hi h0 h1) d ?_
  rw [oi_clamp hi]
  exact k _ _ _ _ _ _ _ _ _ _ _ _ _ _ _ _ _ _ _ _ hy hl ol (ok_cons (v := vI (M a i.toNat)) (hW.2.2.2.1 _ _) (ok_tail (ok_tail os)))
theorem go_aaload {a r c0 : Nat} {i : Int} (d : decode cc pc = .ok (.aaload, 1)) (hk : kd a = c0 + 11) (hc : 2 ≤ c0) (hc2 : c0 < 5) (ha : a < n) (h0 : 0 ≤ i) (h1 : i < (ln a : Int)) (hp : P a i.toNat = some r) (k : Go S y cc nL t mc ms ret (pc + 1) lv (vR r :: st) n P M Q) : Go S y cc nL t mc ms ret pc lv (vI i :: vR a :: st) n P M Q := by
  intro p l e R s m args below meth c H locs cells slots base b D cy ls Qf hy hl ol os
  have hi : inR i := ok_head os
  have hW := hy.2.2.2.1
  have hin := oi_in hi h0 h1
  have ha' : (wsOf base cy n P M)[a]? = some (base + a, .inl (cy c0, ln a, .inr (.inr (.inr (.inr (fun i => (P a i).map (fun r => base + r))))))) := by rw [ws_get ha, ent_refs hk hc]
  have hlt : (Int32.ofInt i).toNatClampNeg < ln a := Nat.not_le.mp fun q => hin (Or.inr q)
  obtain ⟨ty, hty, htr⟩ : ∃ ty : FieldType, (tysOf cy)[c0]? = some (cy c0, ty) ∧ ty.isReference = true := by
    rcases (show c0 = 2 ∨ c0 = 3 ∨ c0 = 4 by omega) with rfl | rfl | rfl <;> exact ⟨_, rfl, rfl⟩
  refine W.aald (v := .ref (base + r)) (ty := ty) hy.1.1 hy.1.2.1 (hW.2.1 a _ ha') ((hW.1.2 c0 _ hty).1 (ln a) (fun j => va_rf ((P a j).map (fun r => base + r)))) htr (fun q => by cases q) (by show ¬ (Int32.ofInt i < 0 ∨ (arrV _ _ _).slots.size ≤ _); rw [arrV_size]; exact hin) ?_ rfl rfl d (k _ _ _ _ _ _ _ _ _ _ _ _ _ _ _ _ _ _ _ _ hy hl ol (ok_cons (v := vR r) trivial (ok_tail (ok_tail os))))
  show (arrV _ _ _).slots[_]? = _
  rw [arrV_read _ _ hlt, oi_clamp hi]
  show some (va_rf ((P a i.toNat).map (fun r => base + r))) = _
  rw [hp]
  rfl
theorem cell_upd (cA : ClassId) (N : Nat) (M : inm) (a : Nat) (i : Nat) (z : Int) : (vp_cell cA (N, .inl (fun j => Int32.ofInt (M a j)))).setSlot i (.int (Int32.ofInt z)) = vp_cell cA (N, .inl (fun j => Int32.ofInt (up2 M a i z a j))) := by
  rw [vp_cell_i, vp_cell_i, arrV_store]
  congr 2
  funext q
  by_cases hq : q = i
  · subst hq
    simp [updV, up2]
  · simp [updV, up2, hq]
theorem go_iastore {a : Nat} {i z : Int} (d : decode cc pc = .ok (.iastore, 1)) (hk : kd a = 11) (ha : a < n) (h0 : 0 ≤ i) (h1 : i < (ln a : Int)) (k : Go S y cc nL t mc ms ret (pc + 1) lv st n P (up2 M a i.toNat z) Q) : Go S y cc nL t mc ms ret pc lv (vI z :: vI i :: vR a :: st) n P M Q := by
  intro p l e R s m args below meth c H locs cells slots base b D cy ls Qf hy hl ol os
  have hi : inR i := ok_head (ok_tail os)
  have hW := hy.2.2.2.1
  have hin := oi_in hi h0 h1
  have ha' : (wsOf base cy n P M)[a]? = some (base + a, .inl (cy 0, ln a, .inl (fun i => Int32.ofInt (M a i)))) := by rw [ws_get ha, ent_ints hk]
  refine W.iast hy.1.1 hy.1.2.1 (hW.2.1 a _ ha') ((hW.1.2 0 _ rfl).1 (ln a) (fun j => .int (Int32.ofInt (M a j)))) (fun q => by cases q) (by show ¬ (Int32.ofInt i < 0 ∨ (arrV _ _ _).slots.size ≤ _); rw [arrV_size]; exact hin) rfl rfl d fun H1 e1 z1 oq => ?_
  rw [oi_clamp hi] at e1
  have e2 : H1[base + a]? = some (vp_cell (cy 0) (ln a, .inl (fun j => Int32.ofInt (up2 M a i.toNat z a j)))) := by rw [e1]; exact congrArg some (cell_upd _ _ _ _ _ _)
  have hP1 : va_P D vwCl ((wsOf base cy n P M).set a (base + a, .inl (cy 0, ln a, .inl (fun j => Int32.ofInt (up2 M a i.toNat z a j))))) H1 := hW.2.1.set ws_D ha' e2 oq
  rw [ws_set (P' := P) (M' := up2 M a i.toNat z) ha (ent_ints hk) (fun j hj => ent_otherI hj)] at hP1
  exact k _ _ _ _ _ _ _ _ _ _ H1 _ _ _ _ _ _ _ _ _ ⟨hy.1, hy.2.1, hy.2.2.1, wd_put hW ha (ok_head os) hP1 (fun _ => z1), hy.2.2.2.2.1.put z1 oq (Nat.le_add_right base a), hy.2.2.2.2.2.1, hy.2.2.2.2.2.2⟩ hl ol (ok_tail (ok_tail (ok_tail os)))
theorem go_bastore {a : Nat} {i z : Int} (d : decode cc pc = .ok (.bastore, 1)) (hk : kd a = 12) (ha : a < n) (hn3 : n = 303) (h0 : 0 ≤ i) (h1 : i < (ln a : Int)) (h01 : z = 0 ∨ z = 1) (k : Go S y cc nL t mc ms ret (pc + 1) lv st n P (up2 M a i.toNat z) Q) : Go S y cc nL t mc ms ret pc lv (vI z :: vI i :: vR a :: st) n P M Q := by
  intro p l e R s m args below meth c H locs cells slots base b D cy ls Qf hy hl ol os
  have hi : inR i := ok_head (ok_tail os)
  have hW := hy.2.2.2.1
  have ha' : (wsOf base cy n P M)[a]? = some (base + a, .inl (cy 1, ln a, .inl (fun i => Int32.ofInt (M a i)))) := by rw [ws_get ha, ent_bools hk]
  refine va_zast hy.1.1 hy.1.2.1 hW.1 hW.2.1 ws_D hy.2.2.2.2.1 a 1 ha' rfl (oi_in hi h0 h1) d (fun H1 locs1 hP1 _ hS1 => ?_)
  have hv : vp_nar .boolean (Int32.ofInt z) = Int32.ofInt z := by rcases h01 with rfl | rfl <;> rfl
  rw [ws_set (P' := P) (M' := up2 M a i.toNat z) ha (by rw [ent_bools hk, oi_clamp hi, hv]; congr 4; funext q; unfold upd up2; by_cases hq : q = i.toNat <;> simp [hq]) (fun j hj => ent_otherI hj)] at hP1
  exact k _ _ _ _ _ _ _ _ _ _ H1 _ _ _ _ _ _ _ _ _ ⟨hy.1, hy.2.1, hy.2.2.1, wd_put hW ha (ok_head os) hP1 (fun h => absurd h (by omega)), hS1, hy.2.2.2.2.2.1, hy.2.2.2.2.2.2⟩ hl ol (ok_tail (ok_tail (ok_tail os)))
theorem go_alen {a c0 : Nat} (d : decode cc pc = .ok (.arraylength, 1)) (hk : kd a = c0 + 11) (hc : c0 < 2) (ha : a < n) (hl9 : ln a < 10000) (k : Go S y cc nL t mc ms ret (pc + 1) lv (vI (ln a : Int) :: st) n P M Q) : Go S y cc nL t mc ms ret pc lv (vR a :: st) n P M Q := by
  intro p l e R s m args below meth c H locs cells slots base b D cy ls Qf hy hl ol os
  have hW := hy.2.2.2.1
  have hR : inR (ln a : Int) := ⟨by omega, by omega⟩
  have K := k _ _ _ _ _ _ _ _ _ _ _ _ _ _ _ _ _ _ _ _ hy hl ol (ok_cons (v := vI (ln a : Int)) hR (ok_tail os))
  have hv : Int32.ofNat (ln a) = Int32.ofInt (ln a : Int) := Int32.ofInt_eq_ofNat.symm
  rcases (show c0 = 0 ∨ c0 = 1 by omega) with rfl | rfl
  · exact va_alen hy.1.1 hy.1.2.1 hW.1 hW.2.1 a 0 (x := (ln a, .inl (fun i => Int32.ofInt (M a i)))) (by rw [ws_get ha, ent_ints hk]) rfl hv d K
  · exact va_alen hy.1.1 hy.1.2.1 hW.1 hW.2.1 a 1 (x := (ln a, .inl (fun i => Int32.ofInt (M a i)))) (by rw [ws_get ha, ent_bools hk]) rfl hv d K
/-- the script -/
theorem go_sload {i : Int} (d : decode cc pc = .ok (.iaload, 1)) (hy0 : y.cls = "OnionProbateLaw") (h0 : 0 ≤ i) (h1 : i < (S.1 : Int)) (k : Go S y cc nL t mc ms ret (pc + 1) lv (vI (S.2 i.toNat).toInt :: st) n P M Q) : Go S y cc nL t mc ms ret pc lv (vI i :: vS :: st) n P M Q := by
  intro p l e R s m args below meth c H locs cells slots base b D cy ls Qf hy hl ol os
  have hi : inR i := ok_head os
  obtain ⟨hX, hbb⟩ := hy.2.1 hy0
  refine va_sld hy.1.1 hy.1.2.1 hX (Nat.lt_of_lt_of_le hbb hy.2.2.1) (Nat.not_le.mpr hbb) hy.2.2.2.2.1 (oi_in hi h0 h1) d ?_
  rw [oi_clamp hi]
  have K := k _ _ _ _ _ _ _ _ _ _ _ _ _ _ _ _ _ _ _ _ hy hl ol (ok_cons (v := vI (S.2 i.toNat).toInt) (oi_range _) (ok_tail (ok_tail os)))
  have e : rv base b (vI (S.2 i.toNat).toInt) = .int (S.2 i.toNat) := congrArg Value.int (Int32.ofInt_toInt _)
  rw [List.map_cons, e] at K
  exact K
theorem go_slen (d : decode cc pc = .ok (.arraylength, 1)) (hy0 : y.cls = "OnionProbateLaw") (hS : S.1 < 10000) (k : Go S y cc nL t mc ms ret (pc + 1) lv (vI (S.1 : Int) :: st) n P M Q) : Go S y cc nL t mc ms ret pc lv (vS :: st) n P M Q := by
  intro p l e R s m args below meth c H locs cells slots base b D cy ls Qf hy hl ol os
  obtain ⟨hX, hbb⟩ := hy.2.1 hy0
  refine va_slen hy.1.1 hy.1.2.1 hX (Nat.lt_of_lt_of_le hbb hy.2.2.1) (Nat.not_le.mpr hbb) hy.2.2.2.2.1 d ?_
  have K := k _ _ _ _ _ _ _ _ _ _ _ _ _ _ _ _ _ _ _ _ hy hl ol (ok_cons (v := vI (S.1 : Int)) ⟨by omega, by omega⟩ (ok_tail os))
  have e : rv base b (vI (S.1 : Int)) = .int (Int32.ofNat S.1) := congrArg Value.int Int32.ofInt_eq_ofNat
  rw [List.map_cons, e] at K
  exact K
end GoMem
