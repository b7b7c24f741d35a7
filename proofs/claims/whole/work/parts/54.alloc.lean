/-! ===== rows of the judgement: cells made ===== -/
theorem ws_succ {base n : Nat} {cy : Nat → ClassId} {P : rfm} {M : inm} : wsOf base cy (n + 1) P M = wsOf base cy n P M ++ [(base + n, ent base cy P M n)] := by
  unfold wsOf
  rw [List.range_succ, List.map_append]
  rfl
/-- a cell more: what is there stays, the new one is as its number says -/
theorem Wd.more {D : va_G} {cy : Nat → ClassId} {base n : Nat} {P : rfm} {M : inm} {s : State} {H H1 : Heap} (hW : Wd D cy base n P M s H) (hn : n < 303) (hz : H1.size = base + n + 1) (ho : ∀ q, q < base + n → H1[q]? = H[q]?) (ha : va_at D vwCl (base + n, ent base cy P M n) H1) : Wd D cy base (n + 1) P M s H1 := by
  have hsz := hW.2.2.1 hn
  refine ⟨hW.1, ?_, fun _ => by omega, hW.2.2.2.1, fun k i hk => hW.2.2.2.2 k i (by omega)⟩
  rw [ws_succ]
  refine (hW.2.1.kept (fun k x hx => ?_)).app (fun k x hx => ?_)
  · have := (hW.2.1 k x hx).lt
    exact ho x.1 (by omega)
  · have h0 : k < 1 := (List.getElem?_eq_some_iff.mp hx).1
    rw [show k = 0 by omega] at hx
    cases hx
    exact ha
theorem va_S.more {base n : Nat} {H0 H H1 : Heap} {locs : List Loc} (hS : va_S (fun q => base ≤ q) H0 H locs) (hsz : H.size = base + n) (hz : H1.size = base + n + 1) (ho : ∀ q, q < base + n → H1[q]? = H[q]?) : va_S (fun q => base ≤ q) H0 H1 locs :=
  ⟨Nat.le_trans hS.1 (by omega), fun x h1 h2 => (ho x (by have := hS.1; omega)).trans (hS.2.1 x h1 h2), hS.2.2⟩
section GoNew
variable {S : Nat × (Nat → Int32)} {y : MethodName} {cc : ByteArray} {nL t mc ms : Nat} {ret : Option FieldType} {pc : Nat} {lv : List (Nat × PV)} {st : List PV} {n : Nat} {P : rfm} {M : inm} {Q : Post}
theorem go_newI {mc' ms' N : Nat} {z : Int} (d : decode cc pc = .ok (.newarray .int, 2)) (hw : Cond.arrayClass .int ∈ TB) (hn : n < 303) (hk : kd n = 11) (hN : ln n = N) (hz : z = (N : Int)) (hl4 : N ≤ 4000) (hm : mc = mc' + 1) (hs : ms = ms' + N) (k : Go S y cc nL t mc' ms' ret (pc + 2) lv (vR n :: st) (n + 1) P M Q) : Go S y cc nL t mc ms ret pc lv (vI z :: st) n P M Q := by
  intro p l e R s m args below meth c H locs cells slots base b D cy ls Qf hy hl ol os
  obtain ⟨hcx, hX, hbs, hW, hS, hroom, hEg⟩ := hy
  have hsz := hW.2.2.1 hn
  have hr : inR z := ok_head os
  refine va_newaK (atype := .int) (N := N) (h := base + n) hcx.1 hcx.2.1 (hcx.2.2.2.2.1 _ hw) (g := F0 m pc ls _) rfl d rfl (by rw [oi_0, oi_lt hr (by decide)]; omega) (by rw [oi_clamp hr]; omega) (by show N * 4 ≤ 536870912; omega) (by omega) (by omega) hsz fun H1 cA e1 z1 o1 hAr hNm => ?_
  have ec : cA = cy 0 := Option.some.inj (hNm.symm.trans (hW.1.2 0 (cy 0, .int) rfl).2)
  subst ec
  refine k p l e R s m args below meth c H1 locs (cells + 1) (slots + N) base b D cy ls Qf ⟨hcx, hX, hbs, hW.more hn z1 o1 ?_, hS.more hsz z1 o1, ⟨by omega, by omega⟩, hEg⟩ hl ol (ok_cons trivial (ok_tail os))
  rw [ent_ints hk]
  show H1[base + n]? = some (vp_cell (cy 0) (ln n, .inl _))
  rw [e1, vp_cell_i, hN]
  refine congrArg some (congrArg (arrV (cy 0) N) (funext fun i => ?_))
  rw [(hW.2.2.2.2 n i (Nat.le_refl n)).1]
  rfl
theorem go_newZ {mc' ms' N : Nat} {z : Int} (d : decode cc pc = .ok (.newarray .boolean, 2)) (hw : Cond.arrayClass .boolean ∈ TB) (hn : n < 303) (hk : kd n = 12) (hN : ln n = N) (hz : z = (N : Int)) (hl4 : N ≤ 4000) (hm : mc = mc' + 1) (hs : ms = ms' + N) (k : Go S y cc nL t mc' ms' ret (pc + 2) lv (vR n :: st) (n + 1) P M Q) : Go S y cc nL t mc ms ret pc lv (vI z :: st) n P M Q := by
  intro p l e R s m args below meth c H locs cells slots base b D cy ls Qf hy hl ol os
  obtain ⟨hcx, hX, hbs, hW, hS, hroom, hEg⟩ := hy
  have hsz := hW.2.2.1 hn
  have hr : inR z := ok_head os
  refine va_newaK (atype := .boolean) (N := N) (h := base + n) hcx.1 hcx.2.1 (hcx.2.2.2.2.1 _ hw) (g := F0 m pc ls _) rfl d rfl (by rw [oi_0, oi_lt hr (by decide)]; omega) (by rw [oi_clamp hr]; omega) (by show N * 1 ≤ 536870912; omega) (by omega) (by omega) hsz fun H1 cA e1 z1 o1 hAr hNm => ?_
  have ec : cA = cy 1 := Option.some.inj (hNm.symm.trans (hW.1.2 1 (cy 1, .boolean) rfl).2)
  subst ec
  refine k p l e R s m args below meth c H1 locs (cells + 1) (slots + N) base b D cy ls Qf ⟨hcx, hX, hbs, hW.more hn z1 o1 ?_, hS.more hsz z1 o1, ⟨by omega, by omega⟩, hEg⟩ hl ol (ok_cons trivial (ok_tail os))
  rw [ent_bools hk]
  show H1[base + n]? = some (vp_cell (cy 1) (ln n, .inl _))
  rw [e1, vp_cell_i, hN]
  refine congrArg some (congrArg (arrV (cy 1) N) (funext fun i => ?_))
  rw [(hW.2.2.2.2 n i (Nat.le_refl n)).1]
  rfl
/-- a class's words for new -/
def Nwc (own : String) (idx ci N : Nat) : Prop := ∃ (C : String) (T : u_T) (ty : Nat → FieldType), vwCl[ci]? = some (C, T, N) ∧ nf ci = N ∧ ci < 11 ∧ (∀ w ∈ u_ws C T N, w ∈ TB) ∧ (∀ k, k < N → parseFieldDescriptor (T k).2.2.1 = some (ty k)) ∧ Cond.classLink own idx C ∈ TB ∧ Cond.instantiable C N ∈ TB ∧ Cond.initialized C ∈ TB ∧ ∀ j, j < N → defaultValue (ty j) = if rfq ci j = true then .null else .int 0
theorem go_new {mc' ms' idx ci N : Nat} {own : String} (d : decode cc pc = .ok (.new idx, 3)) (hw : Nwc own idx ci N) (hown : y.cls = own) (hn : n < 303) (hk : kd n = ci) (hm : mc = mc' + 1) (hs : ms = ms' + N) (k : Go S y cc nL t mc' ms' ret (pc + 3) lv (vR n :: st) (n + 1) P M Q) : Go S y cc nL t mc ms ret pc lv st n P M Q := by
  intro p l e R s m args below meth c H locs cells slots base b D cy ls Qf hy hl ol os
  obtain ⟨hcx, hX, hbs, hW, hS, hroom, hEg⟩ := hy
  have hsz := hW.2.2.1 hn
  obtain ⟨C, T, ty, hv, hnf, hci, hin, hty, hcl, hins, hini, hdv⟩ := hw
  have hts := hcx.2.2.2.2.1
  have hKn := hW.1.1 ci _ hv
  have hfc : s.vm.findClass own = some m.cls := by rw [← hown]; exact hcx.2.2.2.1
  refine W.newcK (n := N) (h := base + n) hcx.1 hcx.2.1 hfc (hts _ hcl) (hts _ hins) (hts _ hini) (g := F0 m pc ls _) rfl d (by omega) (by omega) hKn.2.1 hsz fun H1 kC hkC e1 z1 o1 => ?_
  refine k p l e R s m args below meth c H1 locs (cells + 1) (slots + N) base b D cy ls Qf ⟨hcx, hX, hbs, hW.more hn z1 o1 ?_, hS.more hsz z1 o1, ⟨by omega, by omega⟩, hEg⟩ hl ol (ok_cons trivial os)
  rw [ent_obj hk hci]
  refine ⟨_, hv, (u_born ty hts hin hKn hkC e1 hty).to (fun j hj => ?_)⟩
  show defaultValue (ty j) = (flds base P M n ci).getD j .null
  rw [List.getD_eq_getElem?_getD, flds_at (by rw [hnf]; exact hj), hdv j hj, (hW.2.2.2.2 n j (Nat.le_refl n)).1, (hW.2.2.2.2 n j (Nat.le_refl n)).2]
  split <;> rfl
theorem go_anew {mc' ms' idx N c0 : Nat} {own C : String} {z : Int} (d : decode cc pc = .ok (.anewarray idx, 3)) (hw : Cond.classLink own idx C ∈ TB ∧ Cond.arrayOver (.object C) ∈ NT) (hown : y.cls = own) (hc0 : 2 ≤ c0) (hty : ∀ cy : Nat → ClassId, (tysOf cy)[c0]? = some (cy c0, .object C)) (hn : n < 303) (hk : kd n = c0 + 11) (hN : ln n = N) (hz : z = (N : Int)) (hl4 : N ≤ 4000) (hm : mc = mc' + 1) (hs : ms = ms' + N) (k : Go S y cc nL t mc' ms' ret (pc + 3) lv (vR n :: st) (n + 1) P M Q) : Go S y cc nL t mc ms ret pc lv (vI z :: st) n P M Q := by
  intro p l e R s m args below meth c H locs cells slots base b D cy ls Qf hy hl ol os
  obtain ⟨hcx, hX, hbs, hW, hS, hroom, hEg⟩ := hy
  have hsz := hW.2.2.1 hn
  have hr : inR z := ok_head os
  have hts := hcx.2.2.2.2.1
  have hfc : s.vm.findClass own = some m.cls := by rw [← hown]; exact hcx.2.2.2.1
  have hN2 : (Int32.ofInt z).toNatClampNeg = N := by rw [oi_clamp hr]; omega
  refine W.anew hcx.1 hcx.2.1 hfc (hts _ hw.1) (hcx.2.2.2.2.2.2.2.2.2.2 _ hw.2) (g := F0 m pc ls _) rfl d rfl (by rw [oi_0, oi_lt hr (by decide)]; omega) (by rw [hN2]; omega) (by omega) (by rw [hN2]; omega) fun cA kA comp h1 h2 h3 h4 => ?_
  obtain ⟨kA', comp', g1, g2, g3, g4⟩ := (hW.1.2 c0 _ (hty cy)).2
  have ec : cA = cy c0 := Option.some.inj (h1.symm.trans g4)
  subst ec
  rw [hN2, hsz]
  refine k p l e R s m args below meth c _ locs (cells + 1) (slots + N) base b D cy ls Qf ⟨hcx, hX, hbs, hW.more hn (by rw [Array.size_push, hsz]) (fun q hq => by rw [Array.getElem?_push, if_neg (by omega)]) ?_, hS.more hsz (by rw [Array.size_push, hsz]) (fun q hq => by rw [Array.getElem?_push, if_neg (by omega)]), ⟨by omega, by omega⟩, hEg⟩ hl ol (ok_cons trivial (ok_tail os))
  rw [ent_refs hk hc0]
  show (H.push _)[base + n]? = some (vp_cell (cy c0) (ln n, .inr (.inr (.inr (.inr _)))))
  rw [← hsz, Array.getElem?_push_size, vp_cell_q, arrV_new, hN]
  refine congrArg some (congrArg (arrV (cy c0) N) (funext fun i => ?_))
  rw [(hW.2.2.2.2 n i (Nat.le_refl n)).2]
  rfl
theorem go_aast {c0 ci a r i : Nat} {C : String} {T : u_T} {N : Nat} {z : Int} (d : decode cc pc = .ok (.aastore, 1)) (hc0 : 2 ≤ c0) (hty : ∀ cy : Nat → ClassId, (tysOf cy)[c0]? = some (cy c0, .object C)) (hv : vwCl[ci]? = some (C, T, N)) (hci : ci < 11) (ha : a < n) (hka : kd a = c0 + 11) (hr : r < n) (hkr : kd r = ci) (hz : z = (i : Int)) (hi : i < ln a) (k : Go S y cc nL t mc ms ret (pc + 1) lv st n (up2 P a i (some r)) M Q) : Go S y cc nL t mc ms ret pc lv (vR r :: vI z :: vR a :: st) n P M Q := by
  intro p l e R s m args below meth c H locs cells slots base b D cy ls Qf hy hl ol os
  obtain ⟨hcx, hX, hbs, hW, hS, hroom, hEg⟩ := hy
  have hrz : inR z := ok_head (ok_tail os)
  have hcl : (Int32.ofInt z).toNatClampNeg = i := by rw [oi_clamp hrz]; omega
  have ha' : (wsOf base cy n P M)[a]? = some (base + a, .inl (cy c0, ln a, .inr (.inr (.inr (.inr (fun i => (P a i).map (fun r => base + r))))))) := by rw [ws_get ha, ent_refs hka hc0]
  obtain ⟨r', hr', cellV, g1, g2, g3, -⟩ := hW.2.1 r (base + r, .inr (ci, flds base P M r ci)) (by rw [ws_get hr, ent_obj hkr hci])
  have hcls := (hW.1.1 ci _ hv).2
  obtain ⟨kA, comp, k1, k2, k3, -⟩ := (hW.1.2 c0 _ (hty cy)).2
  have hcomp : comp = D.1 ci := Option.some.inj (k3.symm.trans hcls.1)
  subst hcomp
  obtain ⟨kC, hkC, -⟩ := hcls.2
  refine W.aast hcx.1 hcx.2.1 (hW.2.1 a _ ha') (fun q h => by cases h) (fun h => by cases h) k1 k2 rfl hkC ⟨by rw [oi_0, oi_lt hrz (by decide)]; omega, by show _ < (arrV _ _ _).slots.size; rw [arrV_size, hcl]; exact hi⟩ g1 (fun q h => by rw [g3] at h; cases h) (by rw [g2]; exact hkC) (by rw [g2]; exact va_assign hcls) (g := F0 m pc ls _) rfl rfl d fun H1 e1 z1 oq => ?_
  rw [hcl] at e1
  have e2 : H1[base + a]? = some (vp_cell (cy c0) (ln a, .inr (.inr (.inr (.inr (fun j => (up2 P a i (some r) a j).map (fun r => base + r))))))) := by
    rw [e1]
    show some ((vp_cell (cy c0) (ln a, .inr (.inr (.inr (.inr (fun i => (P a i).map (fun r => base + r))))))).setSlot i (.ref (base + r))) = _
    rw [vp_cell_q, vp_cell_q, arrV_store]
    refine congrArg some (congrArg (arrV (cy c0) (ln a)) (funext fun q => ?_))
    by_cases hq : q = i
    · subst hq
      simp [updV, up2, va_rf]
    · simp [updV, up2, hq]
  have hP1 : va_P D vwCl ((wsOf base cy n P M).set a (base + a, .inl (cy c0, ln a, .inr (.inr (.inr (.inr (fun j => (up2 P a i (some r) a j).map (fun r => base + r)))))))) H1 := hW.2.1.set ws_D ha' e2 oq
  rw [ws_set (P' := up2 P a i (some r)) (M' := M) ha (ent_refs hka hc0) (fun j hj => ent_otherR hj)] at hP1
  refine k _ _ _ _ _ _ _ _ _ _ H1 _ _ _ _ _ _ _ _ _ ⟨hcx, hX, hbs, wd_putR hW ha hP1 (fun _ => z1), hS.put z1 oq (Nat.le_add_right base a), ?_, hEg⟩ hl ol (ok_tail (ok_tail (ok_tail os)))
  exact hroom
end GoNew
