/-! ===== rows of the judgement: calls ===== -/
def cp2 (M : inm) (a0 sp a1 dp len : Nat) : inm := fun x j => if x = a1 ∧ dp ≤ j ∧ j < dp + len then M a0 (sp + (j - dp)) else M x j
def w_copy : List Cond := [.native arraycopyName, .static arraycopyName, .initialized "java/lang/System"]
def w_math : List Cond := [.static Lib.Math.min.name, .static Lib.Math.max.name, .initialized "java/lang/Math", .code Lib.Math.min.name Lib.Math.min.code 2 (some .int), .code Lib.Math.max.name Lib.Math.max.code 2 (some .int)]
def w_obj : List Cond := [.instanceMethod Lib.objectInit, .code Lib.objectInit ⟨#[0xb1]⟩ 1 none]
/-- room: t frames, 35 words for each -/
abbrev rmOf (t mc ms : Nat) : Room := { frames := t, cells := mc, slots := ms, locals := 35 * t }
def OkI (y : MethodName) (cc : ByteArray) (nL t mc ms : Nat) (ret : Option FieldType) (av : List PV) (n : Nat) (P : rfm) (M : inm) (Q : Int → Nat → rfm → inm → Prop) : Prop :=
  ∀ (l : Launch) (base b : Nat) (D : va_G) (cy : Nat → ClassId), (∀ v ∈ av, okV v) → Met l y (Cond.code y cc nL ret :: TB) (rmOf t mc ms) (va_Pc (av.map (rv base b)) (fun U => base ≤ U.heap.size ∧ Wd D cy base n P M U U.heap ∧ ∀ w ∈ NT, va_Nw w U)) (va_Qi (S := Nat × rfm × inm) (fun r u => ∃ z : Int, r = Int32.ofInt z ∧ inR z ∧ Q z u.1 u.2.1 u.2.2) (fun u t => Wd D cy base u.1 u.2.1 u.2.2 t t.heap) (fun q => base ≤ q)) mc ms (fun q => base ≤ q)
def OkV (y : MethodName) (cc : ByteArray) (nL t mc ms : Nat) (av : List PV) (n : Nat) (P : rfm) (M : inm) (Q : Nat → rfm → inm → Prop) : Prop :=
  ∀ (l : Launch) (base b : Nat) (D : va_G) (cy : Nat → ClassId), (∀ v ∈ av, okV v) → Met l y (Cond.code y cc nL none :: TB) (rmOf t mc ms) (va_Pc (av.map (rv base b)) (fun U => base ≤ U.heap.size ∧ Wd D cy base n P M U U.heap ∧ ∀ w ∈ NT, va_Nw w U)) (va_Qv (S := Nat × rfm × inm) (fun u => Q u.1 u.2.1 u.2.2) (fun u t => Wd D cy base u.1 u.2.1 u.2.2 t t.heap) (fun q => base ≤ q)) mc ms (fun q => base ≤ q)
def avl : Nat → List PV → List (Nat × PV)
  | _, [] => []
  | i, v :: vs => (i, v) :: avl (if isL v = true then i + 2 else i + 1) vs
theorem avl_map (base b : Nat) : ∀ (av : List PV) (i : Nat), (avl i av).map (fun q => (q.1, rv base b q.2)) = lv_args i (av.map (rv base b))
  | [], i => rfl
  | v :: vs, i => by
    show (i, rv base b v) :: (avl _ vs).map _ = (i, rv base b v) :: lv_args _ (vs.map (rv base b))
    have h := rv_cat base b v
    have e : (if isL v = true then i + 2 else i + 1) = (if (rv base b v).category = 2 then i + 2 else i + 1) := by
      rw [← h]
      simp
    rw [e, avl_map base b vs]
theorem avl_mem : ∀ (av : List PV) (i : Nat) (q : Nat × PV), q ∈ avl i av → q.2 ∈ av
  | [], i, q, h => by cases h
  | v :: vs, i, q, h => by
    rcases List.mem_cons.mp h with rfl | h
    · exact List.mem_cons_self
    · exact List.mem_cons_of_mem _ (avl_mem vs _ q h)
def avw (av : List PV) : Nat := (av.map (fun v => if isL v = true then 2 else 1)).sum
theorem avw_len (base b : Nat) : ∀ av : List PV, (lg_sl (av.map (rv base b))).length = avw av
  | [] => rfl
  | v :: vs => by
    have h := rv_cat base b v
    have ih := avw_len base b vs
    show (List.flatMap _ (rv base b v :: vs.map (rv base b))).length = (List.map _ (v :: vs)).sum
    rw [List.flatMap_cons, List.length_append, List.map_cons, List.sum_cons]
    show _ + (lg_sl (vs.map (rv base b))).length = _ + avw vs
    rw [ih]
    congr 1
    cases hv : isL v with
    | true => rw [hv] at h; simp at h; simp [h]
    | false => rw [hv] at h; simp at h; simp [h]
theorem Wd.moved {D : va_G} {cy : Nat → ClassId} {base n : Nat} {P : rfm} {M : inm} {u U : State} {H : Heap} (hvm : u.vm.Alike U.vm) (h : Wd D cy base n P M u H) : Wd D cy base n P M U H := ⟨va_K.moved hvm h.1, h.2⟩
abbrev S0 : Nat × (Nat → Int32) := (0, fun _ => 0)
theorem OkI.of {y : MethodName} {cc : ByteArray} {nL t mc ms : Nat} {ty : FieldType} {av : List PV} {n : Nat} {P : rfm} {M : inm} {Q : Int → Nat → rfm → inm → Prop} (hp : plainName y.cls = true) (hlaw : y.cls ≠ "OnionProbateLaw") (hw : avw av ≤ nL) (k : Go S0 y cc nL t mc ms (some ty) 0 (avl 0 av) [] n P M (fun v n P M => ∃ z, v = some (vI z) ∧ Q z n P M)) : OkI y cc nL t mc ms (some ty) av n P M Q := by
  intro l base b D cy oav
  refine Met.ofW (cc := cc) (maxL := nL) (ret := some ty) hp rfl ?_
  intro p e s m args below meth c s₁ B hml hv
  obtain ⟨rfl, hbase, hW, hNT⟩ := hv
  have hts := atoms_spec (ws := Cond.code y cc nL (some ty) :: TB) B.pre
  have hl := lv_entry (av.map (rv base b)) (n := nL) (by rw [avw_len]; exact hw)
  rw [lg_entry_eq]
  rw [← avl_map] at hl
  refine k p l e _ s m _ below meth c s.heap [] 0 0 base b D cy _ _ ⟨⟨B.exec, B.bytes, hml, findClass_of_methodNamed B.named, fun w h => hts w (List.mem_cons_of_mem _ h), B.returns, B.notSynchronized, fun h => ((name_of_methodNamed B.named B.method).1).trans h, Nat.le_refl _, Nat.le_refl _, hNT⟩, fun h => absurd h hlaw, hbase, hW, va_S.rf, ⟨by show 0 + mc ≤ mc; omega, by show 0 + ms ≤ ms; omega⟩, ?_⟩ hl (fun q hq => oav _ (avl_mem av 0 q hq)) (fun v h => by cases h)
  intro v n' P' M' H' locs cells slots pc ls hq hW' hS' hc hs ok hr
  obtain ⟨z, rfl, hq⟩ := hq
  refine W.widen (k := mc) (n := ms) hc hs ?_
  exact W.zret B.exec B.bytes B.returns hr.2 (fun t ht hWm => ⟨⟨Int32.ofInt z, (n', P', M'), rfl, ⟨z, rfl, ok _ List.mem_cons_self, hq⟩, by show Wd D cy base n' P' M' t t.heap; rw [ht]; exact hW'.moved hWm.alike⟩, hS'.F ht⟩) hS'.2.2 hr.1 B.notSynchronized
theorem OkV.of {y : MethodName} {cc : ByteArray} {nL t mc ms : Nat} {av : List PV} {n : Nat} {P : rfm} {M : inm} {Q : Nat → rfm → inm → Prop} (hp : plainName y.cls = true) (hlaw : y.cls ≠ "OnionProbateLaw") (hw : avw av ≤ nL) (k : Go S0 y cc nL t mc ms none 0 (avl 0 av) [] n P M (fun v n P M => v = none ∧ Q n P M)) : OkV y cc nL t mc ms av n P M Q := by
  intro l base b D cy oav
  refine Met.ofW (cc := cc) (maxL := nL) (ret := none) hp rfl ?_
  intro p e s m args below meth c s₁ B hml hv
  obtain ⟨rfl, hbase, hW, hNT⟩ := hv
  have hts := atoms_spec (ws := Cond.code y cc nL none :: TB) B.pre
  have hl := lv_entry (av.map (rv base b)) (n := nL) (by rw [avw_len]; exact hw)
  rw [lg_entry_eq]
  rw [← avl_map] at hl
  refine k p l e _ s m _ below meth c s.heap [] 0 0 base b D cy _ _ ⟨⟨B.exec, B.bytes, hml, findClass_of_methodNamed B.named, fun w h => hts w (List.mem_cons_of_mem _ h), B.returns, B.notSynchronized, fun h => ((name_of_methodNamed B.named B.method).1).trans h, Nat.le_refl _, Nat.le_refl _, hNT⟩, fun h => absurd h hlaw, hbase, hW, va_S.rf, ⟨by show 0 + mc ≤ mc; omega, by show 0 + ms ≤ ms; omega⟩, ?_⟩ hl (fun q hq => oav _ (avl_mem av 0 q hq)) (fun v h => by cases h)
  intro v n' P' M' H' locs cells slots pc ls hq hW' hS' hc hs ok hr
  obtain ⟨rfl, hq⟩ := hq
  refine W.widen (k := mc) (n := ms) hc hs ?_
  exact W.vret B.exec B.bytes B.returns (fun t ht hWm => ⟨⟨(n', P', M'), rfl, hq, by show Wd D cy base n' P' M' t t.heap; rw [ht]; exact hW'.moved hWm.alike⟩, hS'.F ht⟩) hS'.2.2 hr B.notSynchronized
/-- how a call's words lie in the tables: kind 0 virtual, 1 static, 2 constructor -/
def Cw (kind : Nat) (own : String) (idx : Nat) (y : MethodName) (cc : ByteArray) (nL : Nat) (ret : Option FieldType) (np : Nat) : Prop :=
  Cond.code y cc nL ret ∈ TB ∧ Cond.initialized y.cls ∈ TB ∧ (y.cls ≠ "java/lang/invoke/MethodHandle" ∧ y.cls ≠ "java/lang/invoke/VarHandle" ∧ (parseMethodDescriptor y.desc).map (fun d => d.parameters.length) = some np) ∧ nL ≤ 16 ∧ (Cond.methodLink own idx y ∈ TB ∨ ∃ host, Cond.methodLinkNest own idx y host ∈ NT) ∧ (kind = 0 → Cond.instanceMethod y ∈ TB ∧ Cond.selects y.cls y y ∈ TB) ∧ (kind = 1 → Cond.static y ∈ TB) ∧ (kind = 2 → y.name = "<init>" ∧ Cond.instanceMethod y ∈ TB)
theorem good_TB {w : Cond} (h : w ∈ TB) : (w.onTables && w.keeps) = true ∨ ∃ ty, w = .arrayClass ty := good_of_word (List.mem_filter.mp h).2
theorem good_cons {w : Cond} (h : w ∈ TB) : GoodIn TB (w :: TB) := fun x hx => by
  rcases List.mem_cons.mp hx with rfl | hx
  · exact ⟨h, good_TB h⟩
  · exact ⟨hx, good_TB hx⟩
theorem st_room {base b : Nat} {st : List PV} (h : avw st ≤ 8) : ((st.map (rv base b)).map fun v => v.category).sum ≤ 8 := by
  refine Nat.le_trans (Nat.le_of_eq ?_) h
  unfold avw
  rw [List.map_map]
  congr 1
  apply List.map_congr_left
  intro v _
  match v with
  | .inl _ => rfl
  | .inr (.inl _) => rfl
  | .inr (.inr (.inl _)) => rfl
  | .inr (.inr (.inr _)) => rfl
section GoCall
variable {S : Nat × (Nat → Int32)} {y : MethodName} {cc : ByteArray} {nL t mc ms : Nat} {ret : Option FieldType} {pc : Nat} {lv : List (Nat × PV)} {st : List PV} {n : Nat} {P : rfm} {M : inm} {Q : Post}
theorem blindI {base n b : Nat} {P : rfm} {M : inm} {D : va_G} {cy : Nat → ClassId} {av : List PV} : FrameBlind (va_Pc (av.map (rv base b)) (fun U => base ≤ U.heap.size ∧ Wd D cy base n P M U U.heap ∧ ∀ w ∈ NT, va_Nw w U)) := by
  intro a U g mk q
  obtain ⟨q0, q1, q2, q3⟩ := q
  exact ⟨q0, q1, q2.moved (u := U) (U := U.calling g mk a) (Vm.Alike.refl U.vm), fun w hw => nest_same (u := U) (U := U.calling g mk a) hw rfl (q3 w hw)⟩
theorem ok_app {av st : List PV} {r : PV} (h : ∀ v ∈ av.reverse ++ r :: st, okV v) : (∀ v ∈ r :: av, okV v) ∧ ∀ v ∈ st, okV v := by
  refine ⟨fun v hv => h v ?_, fun v hv => h v ?_⟩
  · rcases List.mem_cons.mp hv with rfl | hv
    · exact List.mem_append_right _ List.mem_cons_self
    · exact List.mem_append_left _ (List.mem_reverse.mpr hv)
  · exact List.mem_append_right _ (List.mem_cons_of_mem _ hv)
theorem ok_appS {av st : List PV} (h : ∀ v ∈ av.reverse ++ st, okV v) : (∀ v ∈ av, okV v) ∧ ∀ v ∈ st, okV v :=
  ⟨fun v hv => h v (List.mem_append_left _ (List.mem_reverse.mpr hv)), fun v hv => h v (List.mem_append_right _ hv)⟩
theorem go_recv {D : va_G} {cy : Nat → ClassId} {base a ci : Nat} {s : State} {H : Heap} {C : String} {T : u_T} {N : Nat} (hW : Wd D cy base n P M s H) (hk : kd a = ci) (hc : ci < 11) (hv : vwCl[ci]? = some (C, T, N)) (ha : a < n) : ∃ cell : Cell, H[base + a]? = some cell ∧ cell.vm.isStatics = false ∧ s.vm.findClass C = some cell.cls :=
  va_recv hW.1 hW.2.1 hv (q0 := a) (fs := flds base P M a ci) (by rw [ws_get ha, ent_obj hk hc])
/-- what a caller goes on with -/
theorem hy_back {p : Program} {l : Launch} {e : Env} {R : Room} {s : State} {m : MethodId} {args : Array Value} {below : List Frame} {meth : Method} {c : Code} {H H1 : Heap} {locs locs1 : List Loc} {cells slots base b mc1 ms1 mc2 ms2 : Nat} {D : va_G} {cy : Nat → ClassId} {Qf : State → Prop} {n1 : Nat} {P1 : rfm} {M1 : inm} {t1 : State} (hy : Hy S y cc nL t mc ms ret p l e R s m args below meth c H locs cells slots base b D cy Qf n P M Q) (hm : mc = mc1 + mc2) (hs : ms = ms1 + ms2) (ht : t1.heap = H1) (hvm : s.vm.Alike t1.vm) (hB : Wd D cy base n1 P1 M1 t1 t1.heap) (hS : va_S (fun q => base ≤ q) s.heap H1 locs1) : Hy S y cc nL t mc2 ms2 ret p l e R s m args below meth c H1 locs1 (cells + mc1) (slots + ms1) base b D cy Qf n1 P1 M1 Q := by
  rw [ht] at hB
  have h5 := hy.2.2.2.2.2.1
  exact ⟨hy.1, hy.2.1, hy.2.2.1, hB.moved hvm.symm, hS, ⟨by omega, by omega⟩, hy.2.2.2.2.2.2⟩
theorem cw_B {kind idx np nL' t' mc1 ms1 : Nat} {y' : MethodName} {cc' : ByteArray} {ret' : Option FieldType} {R : Room} {s : State} {args : Array Value} {own : String} (hc : Cond.code y' cc' nL' ret' ∈ TB ∧ Cond.initialized y'.cls ∈ TB ∧ (y'.cls ≠ "java/lang/invoke/MethodHandle" ∧ y'.cls ≠ "java/lang/invoke/VarHandle" ∧ (parseMethodDescriptor y'.desc).map (fun d => d.parameters.length) = some np) ∧ nL' ≤ 16) (hts : ∀ w ∈ TB, w.before args s = true) (hl : Cond.methodLink own idx y' ∈ TB) (hfr : t ≤ R.frames ∧ 35 * t ≤ R.locals) (ht : t' + 1 ≤ t) : CallB R s args own idx y' cc' nL' ret' (Cond.code y' cc' nL' ret' :: TB) (rmOf t' mc1 ms1) mc1 ms1 np :=
  callB_of np hts (good_cons hc.1) rfl rfl rfl (hts _ hc.2.1) (hts _ hl) hc.2.2.1 ⟨by show t' + 1 ≤ _; omega, by show 8 + (nL' + 11) + 35 * t' ≤ _; have := hc.2.2.2; omega⟩
theorem cw_N {idx np nL' t' mc1 ms1 : Nat} {y' : MethodName} {cc' : ByteArray} {ret' : Option FieldType} {R : Room} {s : State} {args : Array Value} {own host : String} (hc : Cond.code y' cc' nL' ret' ∈ TB ∧ Cond.initialized y'.cls ∈ TB ∧ (y'.cls ≠ "java/lang/invoke/MethodHandle" ∧ y'.cls ≠ "java/lang/invoke/VarHandle" ∧ (parseMethodDescriptor y'.desc).map (fun d => d.parameters.length) = some np) ∧ nL' ≤ 16) (hts : ∀ w ∈ TB, w.before args s = true) (hl : va_Nw (Cond.methodLinkNest own idx y' host) s) (hfr : t ≤ R.frames ∧ 35 * t ≤ R.locals) (ht : t' + 1 ≤ t) : va_CN R s args own idx y' host cc' nL' ret' (Cond.code y' cc' nL' ret' :: TB) (rmOf t' mc1 ms1) mc1 ms1 np :=
  va_cnB np hts (good_cons hc.1) rfl rfl rfl hl (hts _ hc.2.1) hc.2.2.1 ⟨by show t' + 1 ≤ _; omega, by show 8 + (nL' + 11) + 35 * t' ≤ _; have := hc.2.2.2; omega⟩
theorem go_callVI {stk av : List PV} {a ci : Nat} {idx np nL' t' mc1 ms1 mc2 ms2 : Nat} {y' : MethodName} {cc' : ByteArray} {ty' : FieldType} (d : decode cc pc = .ok (.invokevirtual idx, 3)) (hc : Cw 0 y.cls idx y' cc' nL' (some ty') np) (ht : t' + 1 ≤ t) (hs : stk = av.reverse ++ vR a :: st) (hav : av.length = np) (h8 : avw st ≤ 8) (hm : mc = mc1 + mc2) (hms : ms = ms1 + ms2) (hk : kd a = ci) (hci : ∃ (T : u_T) (N : Nat), vwCl[ci]? = some (y'.cls, T, N)) (hc11 : ci < 11) (ha : a < n) (hok : OkI y' cc' nL' t' mc1 ms1 (some ty') (vR a :: av) n P M (fun z n1 P1 M1 => Go S y cc nL t mc2 ms2 ret (pc + 3) lv (vI z :: st) n1 P1 M1 Q)) : Go S y cc nL t mc ms ret pc lv stk n P M Q := by
  subst hs
  intro p l e R s m args below meth c H locs cells slots base b D cy ls Qf hy hl ol os
  obtain ⟨oav, ost⟩ := ok_app os
  have hW := hy.2.2.2.1
  have hM := hok l base b D cy oav
  have hts := hy.1.2.2.2.2.1
  obtain ⟨hf1, hf2, hNT⟩ := hy.1.2.2.2.2.2.2.2.2
  have hfr : t ≤ R.frames ∧ 35 * t ≤ R.locals := ⟨hf1, hf2⟩
  have hf : cells + mc1 ≤ R.cells ∧ slots + ms1 ≤ R.slots := by have := hy.2.2.2.2.2.1; omega
  obtain ⟨c1, c2, c3, c4, c5, c6, c7, c8⟩ := hc
  obtain ⟨T, N, hv⟩ := hci
  rcases c5 with hl5 | ⟨host, hl5⟩
  · refine va_calli (va_runV (As := av.map (rv base b)) (rest := st.map (rv base b)) (g := F0 m pc ls ((av.reverse ++ vR a :: st).map (rv base b))) (b := base + a) ⟨hy.1.1, hy.1.2.1, hy.1.2.2.1, hy.1.2.2.2.1, hts⟩ hM ⟨cw_B (kind := 0) ⟨c1, c2, c3, c4⟩ hts hl5 hfr ht, hts _ (c6 rfl).1, hts _ (c6 rfl).2⟩ ⟨blindI, go_recv hW hk hc11 hv ha, fun U hU hWm => ⟨rfl, by rw [hU]; exact Nat.le_trans hy.2.2.1 hy.2.2.2.2.1.1, by rw [hU]; exact hW.moved hWm.alike, fun w hw => nest_warm hw hWm (hNT w hw)⟩⟩ rfl (by rw [List.length_map]; exact hav) hl.1 (by show (List.map (rv base b) (av.reverse ++ vR a :: st)) = _; simp [rv]) (lv_room (st_room h8)) d hf) hy.2.2.2.2.1 (fun q _ h => h) (fun q h => h) (fun r u t1 H1 locs1 e1 hvm hw hB hz1 hk1 hS1 => ?_)
    obtain ⟨n1, P1, M1⟩ := u
    obtain ⟨z, rfl, hz, hg⟩ := hw
    exact hg _ _ _ _ _ _ _ _ _ _ _ _ _ _ _ _ _ _ _ _ (hy_back hy hm hms e1 hvm hB hS1) hl ol (ok_cons (v := vI z) hz ost)
  · refine va_calli (va_runVN (As := av.map (rv base b)) (rest := st.map (rv base b)) (g := F0 m pc ls ((av.reverse ++ vR a :: st).map (rv base b))) (b := base + a) ⟨hy.1.1, hy.1.2.1, hy.1.2.2.1, hy.1.2.2.2.1, hts⟩ hM ⟨cw_N ⟨c1, c2, c3, c4⟩ hts (hNT _ hl5) hfr ht, hts _ (c6 rfl).1, hts _ (c6 rfl).2⟩ ⟨blindI, go_recv hW hk hc11 hv ha, fun U hU hWm => ⟨rfl, by rw [hU]; exact Nat.le_trans hy.2.2.1 hy.2.2.2.2.1.1, by rw [hU]; exact hW.moved hWm.alike, fun w hw => nest_warm hw hWm (hNT w hw)⟩⟩ rfl (by rw [List.length_map]; exact hav) hl.1 (by show (List.map (rv base b) (av.reverse ++ vR a :: st)) = _; simp [rv]) (lv_room (st_room h8)) d hf) hy.2.2.2.2.1 (fun q _ h => h) (fun q h => h) (fun r u t1 H1 locs1 e1 hvm hw hB hz1 hk1 hS1 => ?_)
    obtain ⟨n1, P1, M1⟩ := u
    obtain ⟨z, rfl, hz, hg⟩ := hw
    exact hg _ _ _ _ _ _ _ _ _ _ _ _ _ _ _ _ _ _ _ _ (hy_back hy hm hms e1 hvm hB hS1) hl ol (ok_cons (v := vI z) hz ost)
theorem go_callVV {stk av : List PV} {a ci : Nat} {idx np nL' t' mc1 ms1 mc2 ms2 : Nat} {y' : MethodName} {cc' : ByteArray} (d : decode cc pc = .ok (.invokevirtual idx, 3)) (hc : Cw 0 y.cls idx y' cc' nL' none np) (ht : t' + 1 ≤ t) (hs : stk = av.reverse ++ vR a :: st) (hav : av.length = np) (h8 : avw st ≤ 8) (hm : mc = mc1 + mc2) (hms : ms = ms1 + ms2) (hk : kd a = ci) (hci : ∃ (T : u_T) (N : Nat), vwCl[ci]? = some (y'.cls, T, N)) (hc11 : ci < 11) (ha : a < n) (hok : OkV y' cc' nL' t' mc1 ms1 (vR a :: av) n P M (fun n1 P1 M1 => Go S y cc nL t mc2 ms2 ret (pc + 3) lv st n1 P1 M1 Q)) : Go S y cc nL t mc ms ret pc lv stk n P M Q := by
  subst hs
  intro p l e R s m args below meth c H locs cells slots base b D cy ls Qf hy hl ol os
  obtain ⟨oav, ost⟩ := ok_app os
  have hW := hy.2.2.2.1
  have hM := hok l base b D cy oav
  have hts := hy.1.2.2.2.2.1
  obtain ⟨hf1, hf2, hNT⟩ := hy.1.2.2.2.2.2.2.2.2
  have hfr : t ≤ R.frames ∧ 35 * t ≤ R.locals := ⟨hf1, hf2⟩
  have hf : cells + mc1 ≤ R.cells ∧ slots + ms1 ≤ R.slots := by have := hy.2.2.2.2.2.1; omega
  obtain ⟨c1, c2, c3, c4, c5, c6, c7, c8⟩ := hc
  obtain ⟨T, N, hv⟩ := hci
  rcases c5 with hl5 | ⟨host, hl5⟩
  · refine va_callv (va_runV (As := av.map (rv base b)) (rest := st.map (rv base b)) (g := F0 m pc ls ((av.reverse ++ vR a :: st).map (rv base b))) (b := base + a) ⟨hy.1.1, hy.1.2.1, hy.1.2.2.1, hy.1.2.2.2.1, hts⟩ hM ⟨cw_B (kind := 0) ⟨c1, c2, c3, c4⟩ hts hl5 hfr ht, hts _ (c6 rfl).1, hts _ (c6 rfl).2⟩ ⟨blindI, go_recv hW hk hc11 hv ha, fun U hU hWm => ⟨rfl, by rw [hU]; exact Nat.le_trans hy.2.2.1 hy.2.2.2.2.1.1, by rw [hU]; exact hW.moved hWm.alike, fun w hw => nest_warm hw hWm (hNT w hw)⟩⟩ rfl (by rw [List.length_map]; exact hav) hl.1 (by show (List.map (rv base b) (av.reverse ++ vR a :: st)) = _; simp [rv]) (lv_room (st_room h8)) d hf) hy.2.2.2.2.1 (fun q _ h => h) (fun q h => h) (fun u t1 H1 locs1 e1 hvm hw hB hz1 hk1 hS1 => ?_)
    obtain ⟨n1, P1, M1⟩ := u
    exact hw _ _ _ _ _ _ _ _ _ _ _ _ _ _ _ _ _ _ _ _ (hy_back hy hm hms e1 hvm hB hS1) hl ol ost
  · refine va_callv (va_runVN (As := av.map (rv base b)) (rest := st.map (rv base b)) (g := F0 m pc ls ((av.reverse ++ vR a :: st).map (rv base b))) (b := base + a) ⟨hy.1.1, hy.1.2.1, hy.1.2.2.1, hy.1.2.2.2.1, hts⟩ hM ⟨cw_N ⟨c1, c2, c3, c4⟩ hts (hNT _ hl5) hfr ht, hts _ (c6 rfl).1, hts _ (c6 rfl).2⟩ ⟨blindI, go_recv hW hk hc11 hv ha, fun U hU hWm => ⟨rfl, by rw [hU]; exact Nat.le_trans hy.2.2.1 hy.2.2.2.2.1.1, by rw [hU]; exact hW.moved hWm.alike, fun w hw => nest_warm hw hWm (hNT w hw)⟩⟩ rfl (by rw [List.length_map]; exact hav) hl.1 (by show (List.map (rv base b) (av.reverse ++ vR a :: st)) = _; simp [rv]) (lv_room (st_room h8)) d hf) hy.2.2.2.2.1 (fun q _ h => h) (fun q h => h) (fun u t1 H1 locs1 e1 hvm hw hB hz1 hk1 hS1 => ?_)
    obtain ⟨n1, P1, M1⟩ := u
    exact hw _ _ _ _ _ _ _ _ _ _ _ _ _ _ _ _ _ _ _ _ (hy_back hy hm hms e1 hvm hB hS1) hl ol ost
theorem go_callSI {stk av : List PV} {idx np nL' t' mc1 ms1 mc2 ms2 : Nat} {y' : MethodName} {cc' : ByteArray} {ty' : FieldType} (d : decode cc pc = .ok (.invokestatic idx, 3)) (hc : Cw 1 y.cls idx y' cc' nL' (some ty') np) (ht : t' + 1 ≤ t) (hs : stk = av.reverse ++ st) (hav : av.length = np) (h8 : avw st ≤ 8) (hm : mc = mc1 + mc2) (hms : ms = ms1 + ms2) (hok : OkI y' cc' nL' t' mc1 ms1 (some ty') av n P M (fun z n1 P1 M1 => Go S y cc nL t mc2 ms2 ret (pc + 3) lv (vI z :: st) n1 P1 M1 Q)) : Go S y cc nL t mc ms ret pc lv stk n P M Q := by
  subst hs
  intro p l e R s m args below meth c H locs cells slots base b D cy ls Qf hy hl ol os
  obtain ⟨oav, ost⟩ := ok_appS os
  have hW := hy.2.2.2.1
  have hM := hok l base b D cy oav
  have hts := hy.1.2.2.2.2.1
  obtain ⟨hf1, hf2, hNT⟩ := hy.1.2.2.2.2.2.2.2.2
  have hfr : t ≤ R.frames ∧ 35 * t ≤ R.locals := ⟨hf1, hf2⟩
  have hf : cells + mc1 ≤ R.cells ∧ slots + ms1 ≤ R.slots := by have := hy.2.2.2.2.2.1; omega
  obtain ⟨c1, c2, c3, c4, c5, c6, c7, c8⟩ := hc
  rcases c5 with hl5 | ⟨host, hl5⟩
  · refine va_calli (va_runS (As := av.map (rv base b)) (rest := st.map (rv base b)) (g := F0 m pc ls ((av.reverse ++ st).map (rv base b))) ⟨hy.1.1, hy.1.2.1, hy.1.2.2.1, hy.1.2.2.2.1, hts⟩ hM ⟨cw_B (kind := 0) ⟨c1, c2, c3, c4⟩ hts hl5 hfr ht, hts _ (c7 rfl)⟩ ⟨blindI, fun U hU hWm => ⟨rfl, by rw [hU]; exact Nat.le_trans hy.2.2.1 hy.2.2.2.2.1.1, by rw [hU]; exact hW.moved hWm.alike, fun w hw => nest_warm hw hWm (hNT w hw)⟩⟩ rfl (by rw [List.length_map]; exact hav) hl.1 (by show (List.map (rv base b) (av.reverse ++ st)) = _; simp [rv]) (lv_room (st_room h8)) d hf) hy.2.2.2.2.1 (fun q _ h => h) (fun q h => h) (fun r u t1 H1 locs1 e1 hvm hw hB hz1 hk1 hS1 => ?_)
    obtain ⟨n1, P1, M1⟩ := u
    obtain ⟨z, rfl, hz, hg⟩ := hw
    exact hg _ _ _ _ _ _ _ _ _ _ _ _ _ _ _ _ _ _ _ _ (hy_back hy hm hms e1 hvm hB hS1) hl ol (ok_cons (v := vI z) hz ost)
  · refine va_calli (va_runSN (As := av.map (rv base b)) (rest := st.map (rv base b)) (g := F0 m pc ls ((av.reverse ++ st).map (rv base b))) ⟨hy.1.1, hy.1.2.1, hy.1.2.2.1, hy.1.2.2.2.1, hts⟩ hM ⟨cw_N ⟨c1, c2, c3, c4⟩ hts (hNT _ hl5) hfr ht, hts _ (c7 rfl), trivial⟩ ⟨blindI, fun U hU hWm => ⟨rfl, by rw [hU]; exact Nat.le_trans hy.2.2.1 hy.2.2.2.2.1.1, by rw [hU]; exact hW.moved hWm.alike, fun w hw => nest_warm hw hWm (hNT w hw)⟩⟩ rfl (by rw [List.length_map]; exact hav) hl.1 (by show (List.map (rv base b) (av.reverse ++ st)) = _; simp [rv]) (lv_room (st_room h8)) d hf) hy.2.2.2.2.1 (fun q _ h => h) (fun q h => h) (fun r u t1 H1 locs1 e1 hvm hw hB hz1 hk1 hS1 => ?_)
    obtain ⟨n1, P1, M1⟩ := u
    obtain ⟨z, rfl, hz, hg⟩ := hw
    exact hg _ _ _ _ _ _ _ _ _ _ _ _ _ _ _ _ _ _ _ _ (hy_back hy hm hms e1 hvm hB hS1) hl ol (ok_cons (v := vI z) hz ost)
theorem go_callSV {stk av : List PV} {idx np nL' t' mc1 ms1 mc2 ms2 : Nat} {y' : MethodName} {cc' : ByteArray} (d : decode cc pc = .ok (.invokestatic idx, 3)) (hc : Cw 1 y.cls idx y' cc' nL' none np) (ht : t' + 1 ≤ t) (hs : stk = av.reverse ++ st) (hav : av.length = np) (h8 : avw st ≤ 8) (hm : mc = mc1 + mc2) (hms : ms = ms1 + ms2) (hok : OkV y' cc' nL' t' mc1 ms1 av n P M (fun n1 P1 M1 => Go S y cc nL t mc2 ms2 ret (pc + 3) lv st n1 P1 M1 Q)) : Go S y cc nL t mc ms ret pc lv stk n P M Q := by
  subst hs
  intro p l e R s m args below meth c H locs cells slots base b D cy ls Qf hy hl ol os
  obtain ⟨oav, ost⟩ := ok_appS os
  have hW := hy.2.2.2.1
  have hM := hok l base b D cy oav
  have hts := hy.1.2.2.2.2.1
  obtain ⟨hf1, hf2, hNT⟩ := hy.1.2.2.2.2.2.2.2.2
  have hfr : t ≤ R.frames ∧ 35 * t ≤ R.locals := ⟨hf1, hf2⟩
  have hf : cells + mc1 ≤ R.cells ∧ slots + ms1 ≤ R.slots := by have := hy.2.2.2.2.2.1; omega
  obtain ⟨c1, c2, c3, c4, c5, c6, c7, c8⟩ := hc
  rcases c5 with hl5 | ⟨host, hl5⟩
  · refine va_callv (va_runS (As := av.map (rv base b)) (rest := st.map (rv base b)) (g := F0 m pc ls ((av.reverse ++ st).map (rv base b))) ⟨hy.1.1, hy.1.2.1, hy.1.2.2.1, hy.1.2.2.2.1, hts⟩ hM ⟨cw_B (kind := 0) ⟨c1, c2, c3, c4⟩ hts hl5 hfr ht, hts _ (c7 rfl)⟩ ⟨blindI, fun U hU hWm => ⟨rfl, by rw [hU]; exact Nat.le_trans hy.2.2.1 hy.2.2.2.2.1.1, by rw [hU]; exact hW.moved hWm.alike, fun w hw => nest_warm hw hWm (hNT w hw)⟩⟩ rfl (by rw [List.length_map]; exact hav) hl.1 (by show (List.map (rv base b) (av.reverse ++ st)) = _; simp [rv]) (lv_room (st_room h8)) d hf) hy.2.2.2.2.1 (fun q _ h => h) (fun q h => h) (fun u t1 H1 locs1 e1 hvm hw hB hz1 hk1 hS1 => ?_)
    obtain ⟨n1, P1, M1⟩ := u
    exact hw _ _ _ _ _ _ _ _ _ _ _ _ _ _ _ _ _ _ _ _ (hy_back hy hm hms e1 hvm hB hS1) hl ol ost
  · refine va_callv (va_runSN (As := av.map (rv base b)) (rest := st.map (rv base b)) (g := F0 m pc ls ((av.reverse ++ st).map (rv base b))) ⟨hy.1.1, hy.1.2.1, hy.1.2.2.1, hy.1.2.2.2.1, hts⟩ hM ⟨cw_N ⟨c1, c2, c3, c4⟩ hts (hNT _ hl5) hfr ht, hts _ (c7 rfl), trivial⟩ ⟨blindI, fun U hU hWm => ⟨rfl, by rw [hU]; exact Nat.le_trans hy.2.2.1 hy.2.2.2.2.1.1, by rw [hU]; exact hW.moved hWm.alike, fun w hw => nest_warm hw hWm (hNT w hw)⟩⟩ rfl (by rw [List.length_map]; exact hav) hl.1 (by show (List.map (rv base b) (av.reverse ++ st)) = _; simp [rv]) (lv_room (st_room h8)) d hf) hy.2.2.2.2.1 (fun q _ h => h) (fun q h => h) (fun u t1 H1 locs1 e1 hvm hw hB hz1 hk1 hS1 => ?_)
    obtain ⟨n1, P1, M1⟩ := u
    exact hw _ _ _ _ _ _ _ _ _ _ _ _ _ _ _ _ _ _ _ _ (hy_back hy hm hms e1 hvm hB hS1) hl ol ost
theorem go_callIV {stk av : List PV} {a ci : Nat} {idx np nL' t' mc1 ms1 mc2 ms2 : Nat} {y' : MethodName} {cc' : ByteArray} (d : decode cc pc = .ok (.invokespecial idx, 3)) (hc : Cw 2 y.cls idx y' cc' nL' none np) (ht : t' + 1 ≤ t) (hs : stk = av.reverse ++ vR a :: st) (hav : av.length = np) (h8 : avw st ≤ 8) (hm : mc = mc1 + mc2) (hms : ms = ms1 + ms2) (hok : OkV y' cc' nL' t' mc1 ms1 (vR a :: av) n P M (fun n1 P1 M1 => Go S y cc nL t mc2 ms2 ret (pc + 3) lv st n1 P1 M1 Q)) : Go S y cc nL t mc ms ret pc lv stk n P M Q := by
  subst hs
  intro p l e R s m args below meth c H locs cells slots base b D cy ls Qf hy hl ol os
  obtain ⟨oav, ost⟩ := ok_app os
  have hW := hy.2.2.2.1
  have hM := hok l base b D cy oav
  have hts := hy.1.2.2.2.2.1
  obtain ⟨hf1, hf2, hNT⟩ := hy.1.2.2.2.2.2.2.2.2
  have hfr : t ≤ R.frames ∧ 35 * t ≤ R.locals := ⟨hf1, hf2⟩
  have hf : cells + mc1 ≤ R.cells ∧ slots + ms1 ≤ R.slots := by have := hy.2.2.2.2.2.1; omega
  obtain ⟨c1, c2, c3, c4, c5, c6, c7, c8⟩ := hc
  rcases c5 with hl5 | ⟨host, hl5⟩
  · refine va_callv (va_runI (As := av.map (rv base b)) (rest := st.map (rv base b)) (g := F0 m pc ls ((av.reverse ++ vR a :: st).map (rv base b))) (b := base + a) ⟨hy.1.1, hy.1.2.1, hy.1.2.2.1, hy.1.2.2.2.1, hts⟩ hM ⟨cw_B (kind := 0) ⟨c1, c2, c3, c4⟩ hts hl5 hfr ht, (c8 rfl).1, hts _ (c8 rfl).2⟩ ⟨blindI, fun U hU hWm => ⟨rfl, by rw [hU]; exact Nat.le_trans hy.2.2.1 hy.2.2.2.2.1.1, by rw [hU]; exact hW.moved hWm.alike, fun w hw => nest_warm hw hWm (hNT w hw)⟩⟩ rfl (by rw [List.length_map]; exact hav) hl.1 (by show (List.map (rv base b) (av.reverse ++ vR a :: st)) = _; simp [rv]) (lv_room (st_room h8)) d hf) hy.2.2.2.2.1 (fun q _ h => h) (fun q h => h) (fun u t1 H1 locs1 e1 hvm hw hB hz1 hk1 hS1 => ?_)
    obtain ⟨n1, P1, M1⟩ := u
    exact hw _ _ _ _ _ _ _ _ _ _ _ _ _ _ _ _ _ _ _ _ (hy_back hy hm hms e1 hvm hB hS1) hl ol ost
  · refine va_callv (va_runIN (As := av.map (rv base b)) (rest := st.map (rv base b)) (g := F0 m pc ls ((av.reverse ++ vR a :: st).map (rv base b))) (b := base + a) ⟨hy.1.1, hy.1.2.1, hy.1.2.2.1, hy.1.2.2.2.1, hts⟩ hM ⟨cw_N ⟨c1, c2, c3, c4⟩ hts (hNT _ hl5) hfr ht, (c8 rfl).1, hts _ (c8 rfl).2⟩ ⟨blindI, fun U hU hWm => ⟨rfl, by rw [hU]; exact Nat.le_trans hy.2.2.1 hy.2.2.2.2.1.1, by rw [hU]; exact hW.moved hWm.alike, fun w hw => nest_warm hw hWm (hNT w hw)⟩⟩ rfl (by rw [List.length_map]; exact hav) hl.1 (by show (List.map (rv base b) (av.reverse ++ vR a :: st)) = _; simp [rv]) (lv_room (st_room h8)) d hf) hy.2.2.2.2.1 (fun q _ h => h) (fun q h => h) (fun u t1 H1 locs1 e1 hvm hw hB hz1 hk1 hS1 => ?_)
    obtain ⟨n1, P1, M1⟩ := u
    exact hw _ _ _ _ _ _ _ _ _ _ _ _ _ _ _ _ _ _ _ _ (hy_back hy hm hms e1 hvm hB hS1) hl ol ost
theorem go_copy {idx a0 a1 : Nat} {sp dp len : Int} (d : decode cc pc = .ok (.invokestatic idx, 3)) (hl0 : Cond.methodLink y.cls idx arraycopyName ∈ TB) (hw : ∀ w ∈ w_copy, w ∈ TB) (ht : 1 ≤ t) (k0 : kd a0 = 11) (k1 : kd a1 = 11) (ha0 : a0 < n) (ha1 : a1 < n) (hn3 : n = 303) (h1 : 0 ≤ sp) (h2 : 0 ≤ dp) (h3 : 0 ≤ len) (h4 : sp + len ≤ (ln a0 : Int)) (h5 : dp + len ≤ (ln a1 : Int)) (h8 : avw st ≤ 8) (k : Go S y cc nL t mc ms ret (pc + 3) lv st n P (cp2 M a0 sp.toNat a1 dp.toNat len.toNat) Q) : Go S y cc nL t mc ms ret pc lv (vI len :: vI dp :: vR a1 :: vI sp :: vR a0 :: st) n P M Q := by
  intro p l e R s m args below meth c H locs cells slots base b D cy ls Qf hy hl ol os
  have hW := hy.2.2.2.1
  have hts := hy.1.2.2.2.2.1
  have hlen : inR len := ok_head os
  have hdp : inR dp := ok_head (ok_tail os)
  have hsp : inR sp := ok_head (ok_tail (ok_tail (ok_tail os)))
  have ng : ∀ z : Int, inR z → 0 ≤ z → ¬ Int32.ofInt z < 0 := fun z hz h => by rw [oi_0, oi_lt hz (by decide)]; omega
  refine va_copyi hy.1.1 hy.1.2.1 (hy.1.2.2.1.trans hl.1.symm) hy.1.2.2.2.1 (hts _ hl0) (hts _ (hw _ (List.mem_of_getElem? (i := 0) rfl))) (hts _ (hw _ (List.mem_of_getElem? (i := 1) rfl))) (hts _ (hw _ (List.mem_of_getElem? (i := 2) rfl))) hW.1 hW.2.1 ws_D hy.2.2.2.2.1 a0 a1 0 0 (ty := .int) (f := fun i => Int32.ofInt (M a0 i)) (g := fun i => Int32.ofInt (M a1 i)) (by rw [ws_get ha0, ent_ints k0]) (by rw [ws_get ha1, ent_ints k1]) rfl rfl rfl (ng _ hsp h1) (ng _ hdp h2) (ng _ hlen h3) (by rw [oi_clamp hsp, oi_clamp hlen]; omega) (by rw [oi_clamp hdp, oi_clamp hlen]; omega) (fun i _ => rfl) (by have := hy.1.2.2.2.2.2.2.2.2.1; omega) ?_ d (fun H1 locs1 hP1 _ hS1 => ?_)
  · have e := st_room (base := base) (b := b) h8
    have e2 := hy.1.2.2.2.2.2.2.2.2.2.1
    have e3 : nativeFrameWords "java/lang/System" "arraycopy" 5 ≤ 16 := by decide +kernel
    omega
  · rw [oi_clamp hsp, oi_clamp hdp, oi_clamp hlen, ws_set (P' := P) (M' := cp2 M a0 sp.toNat a1 dp.toNat len.toNat) ha1 ?_ ?_] at hP1
    · refine k _ _ _ _ _ _ _ _ _ _ H1 _ _ _ _ _ _ _ _ _ ⟨hy.1, hy.2.1, hy.2.2.1, ⟨hW.1, hP1, fun h => absurd h (by omega), fun x j => ?_, fun x j hx => ?_⟩, hS1, hy.2.2.2.2.2.1, hy.2.2.2.2.2.2⟩ hl ol (ok_tail (ok_tail (ok_tail (ok_tail (ok_tail os)))))
      · unfold cp2
        split <;> exact hW.2.2.2.1 _ _
      · unfold cp2
        rw [if_neg (by omega)]
        exact hW.2.2.2.2 x j hx
    · rw [ent_ints k1]
      congr 4
      funext j
      unfold va_cpy cp2
      by_cases hj : dp.toNat ≤ j ∧ j < dp.toNat + len.toNat
      · rw [if_pos hj, if_pos ⟨rfl, hj.1, hj.2⟩]
      · rw [if_neg hj, if_neg (fun q => hj q.2)]
    · intro j hj
      have e : ∀ x, cp2 M a0 sp.toNat a1 dp.toNat len.toNat j x = M j x := fun x => by simp [cp2, hj]
      unfold ent flds
      simp only [e]
theorem go_min {idx : Nat} {x z : Int} (d : decode cc pc = .ok (.invokestatic idx, 3)) (hl0 : Cond.methodLink y.cls idx Lib.Math.min.name ∈ TB) (hw : ∀ w ∈ w_math, w ∈ TB) (ht : 1 ≤ t) (h8 : avw st ≤ 8) (k : Go S y cc nL t mc ms ret (pc + 3) lv (vI (min x z) :: st) n P M Q) : Go S y cc nL t mc ms ret pc lv (vI z :: vI x :: st) n P M Q := by
  intro p l e R s m args below meth c H locs cells slots base b D cy ls Qf hy hl ol os
  have hts := hy.1.2.2.2.2.1
  have hz : inR z := ok_head os
  have hx : inR x := ok_head (ok_tail os)
  have h5 := hy.2.2.2.2.2.1
  have e := st_room (base := base) (b := b) h8
  obtain ⟨e2, e3, -⟩ := hy.1.2.2.2.2.2.2.2.2
  refine va_mmin hy.1.1 hy.1.2.1 (hy.1.2.2.1.trans hl.1.symm) hy.1.2.2.2.1 (hts _ hl0) (hts _ (hw _ (List.mem_of_getElem? (i := 0) rfl))) (hts _ (hw _ (List.mem_of_getElem? (i := 2) rfl))) (hts _ (hw _ (List.mem_of_getElem? (i := 3) rfl))) (by omega) (by omega) (by omega) (by omega) d ?_
  have hm : (if Int32.ofInt z < Int32.ofInt x then Int32.ofInt z else Int32.ofInt x) = Int32.ofInt (min x z) := by
    by_cases h : z < x
    · rw [if_pos ((oi_lt hz hx).mpr h), Int.min_eq_right (by omega)]
    · rw [if_neg (fun q => h ((oi_lt hz hx).mp q)), Int.min_eq_left (by omega)]
  rw [hm]
  refine k _ _ _ _ _ _ _ _ _ _ _ _ _ _ _ _ _ _ _ _ hy hl ol (ok_cons (v := vI (min x z)) ?_ (ok_tail (ok_tail os)))
  show inR (min x z)
  have := hx.1; have := hx.2; have := hz.1; have := hz.2
  exact ⟨by omega, by omega⟩
theorem go_max {idx : Nat} {x z : Int} (d : decode cc pc = .ok (.invokestatic idx, 3)) (hl0 : Cond.methodLink y.cls idx Lib.Math.max.name ∈ TB) (hw : ∀ w ∈ w_math, w ∈ TB) (ht : 1 ≤ t) (h8 : avw st ≤ 8) (k : Go S y cc nL t mc ms ret (pc + 3) lv (vI (max x z) :: st) n P M Q) : Go S y cc nL t mc ms ret pc lv (vI z :: vI x :: st) n P M Q := by
  intro p l e R s m args below meth c H locs cells slots base b D cy ls Qf hy hl ol os
  have hts := hy.1.2.2.2.2.1
  have hz : inR z := ok_head os
  have hx : inR x := ok_head (ok_tail os)
  have h5 := hy.2.2.2.2.2.1
  have e := st_room (base := base) (b := b) h8
  obtain ⟨e2, e3, -⟩ := hy.1.2.2.2.2.2.2.2.2
  refine va_mmax hy.1.1 hy.1.2.1 (hy.1.2.2.1.trans hl.1.symm) hy.1.2.2.2.1 (hts _ hl0) (hts _ (hw _ (List.mem_of_getElem? (i := 1) rfl))) (hts _ (hw _ (List.mem_of_getElem? (i := 2) rfl))) (hts _ (hw _ (List.mem_of_getElem? (i := 4) rfl))) (by omega) (by omega) (by omega) (by omega) d ?_
  have hm : (if Int32.ofInt x < Int32.ofInt z then Int32.ofInt z else Int32.ofInt x) = Int32.ofInt (max x z) := by
    by_cases h : x < z
    · rw [if_pos ((oi_lt hx hz).mpr h), Int.max_eq_right (by omega)]
    · rw [if_neg (fun q => h ((oi_lt hx hz).mp q)), Int.max_eq_left (by omega)]
  rw [hm]
  refine k _ _ _ _ _ _ _ _ _ _ _ _ _ _ _ _ _ _ _ _ hy hl ol (ok_cons (v := vI (max x z)) ?_ (ok_tail (ok_tail os)))
  show inR (max x z)
  have := hx.1; have := hx.2; have := hz.1; have := hz.2
  exact ⟨by omega, by omega⟩
theorem go_obj {idx a : Nat} (d : decode cc pc = .ok (.invokespecial idx, 3)) (hl0 : Cond.methodLink y.cls idx Lib.objectInit ∈ TB) (hw : ∀ w ∈ w_obj, w ∈ TB) (ht : 1 ≤ t) (h8 : avw st ≤ 8) (k : Go S y cc nL t mc ms ret (pc + 3) lv st n P M Q) : Go S y cc nL t mc ms ret pc lv (vR a :: st) n P M Q := by
  intro p l e R s m args below meth c H locs cells slots base b D cy ls Qf hy hl ol os
  have hts := hy.1.2.2.2.2.1
  have e1 := lv_room (m := m) (pc := pc) (ls := ls) (rest := (vR a :: st).map (rv base b)) (st_room (base := base) (b := b) h8)
  obtain ⟨e2, e3, -⟩ := hy.1.2.2.2.2.2.2.2.2
  exact W.objInit hy.1.1 hy.1.2.1 hy.1.2.2.2.1 (hts _ hl0) (hts _ (hw _ (List.mem_of_getElem? (i := 0) rfl))) (hts _ (hw _ (List.mem_of_getElem? (i := 1) rfl))) (g := F0 m pc ls ((vR a :: st).map (rv base b))) rfl (hl.1.trans hy.1.2.2.1.symm) rfl d (by omega) (by omega) (k _ _ _ _ _ _ _ _ _ _ _ _ _ _ _ _ _ _ _ _ hy hl ol (ok_tail os))
end GoCall
