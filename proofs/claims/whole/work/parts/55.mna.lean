/-! ===== rows of the judgement: new int[6][8] ===== -/
theorem mn_outer (c : ClassId) (N h0 : Nat) : ∀ i : Nat, Jvm.Free.Multi.outerC c N h0 i = arrV c N (fun j => va_rf (if j < i then some (h0 + 1 + j) else none))
  | 0 => by
    show ({ cls := c, slots := Array.replicate N .null, vm := .none } : Cell) = _
    rw [arrV_new]
    exact congrArg (arrV c N) (funext fun j => by simp [va_rf])
  | i + 1 => by
    show (Jvm.Free.Multi.outerC c N h0 i).setSlot i (.ref (h0 + 1 + i)) = _
    rw [mn_outer c N h0 i, arrV_store]
    refine congrArg (arrV c N) (funext fun j => ?_)
    by_cases e : j = i
    · subst e
      simp [updV, va_rf]
    · by_cases h : j < i
      · simp [updV, e, h, Nat.lt_succ_of_lt h]
      · simp [updV, e, h, show ¬ j < i + 1 by omega]
/-- the rows of a table made at n -/
def pRows (P : rfm) (n N : Nat) : rfm := fun x j => if x = n ∧ j < N then some (n + 1 + j) else P x j
theorem ent_rows {base n N k : Nat} {cy : Nat → ClassId} {P : rfm} {M : inm} (h : k ≠ n) : ent base cy (pRows P n N) M k = ent base cy P M k := by
  have e : ∀ x, pRows P n N k x = P k x := fun x => by unfold pRows; rw [if_neg (by omega)]
  unfold ent flds
  simp only [e]
theorem Wd.rows {D : va_G} {cy : Nat → ClassId} {base n N K : Nat} {P : rfm} {M : inm} {s : State} {H H1 : Heap} (hW : Wd D cy base n P M s H) (hn : n + N < 303) (hz : H1.size = base + n + 1 + N) (ho : ∀ q, q < base + n → H1[q]? = H[q]?) (hk : kd n = 15) (hl : ln n = N) (hks : ∀ j, j < N → kd (n + 1 + j) = 11 ∧ ln (n + 1 + j) = K) (h0 : H1[base + n]? = some (arrV (cy 4) N (fun j => va_rf (if j < N then some (base + n + 1 + j) else none)))) (h1 : ∀ j, j < N → H1[base + n + 1 + j]? = some (arrV (cy 0) K (fun _ => .int 0))) : Wd D cy base (n + 1 + N) (pRows P n N) M s H1 := by
  have hsz := hW.2.2.1 (by omega)
  refine ⟨hW.1, fun k x hx => ?_, fun _ => by omega, hW.2.2.2.1, fun k i hk9 => ⟨(hW.2.2.2.2 k i (by omega)).1, ?_⟩⟩
  · obtain ⟨hk9, rfl⟩ := ws_inv hx
    by_cases e1 : k < n
    · rw [ent_rows (by omega)]
      exact va_at.kept (hW.2.1 k _ (ws_get e1)) (ho _ (by show base + k < base + n; omega))
    · by_cases e2 : k = n
      · subst e2
        rw [ent_refs (c := 4) hk (by decide)]
        show H1[base + k]? = some (vp_cell (cy 4) (ln k, .inr (.inr (.inr (.inr _)))))
        rw [h0, vp_cell_q, hl]
        refine congrArg some (congrArg (arrV (cy 4) N) (funext fun j => ?_))
        unfold pRows
        by_cases e3 : j < N
        · rw [if_pos e3, if_pos ⟨rfl, e3⟩]
          show va_rf (some (base + k + 1 + j)) = va_rf (some (base + (k + 1 + j)))
          rw [show base + k + 1 + j = base + (k + 1 + j) by omega]
        · rw [if_neg e3, if_neg (by omega), (hW.2.2.2.2 k j (Nat.le_refl k)).2]
          rfl
      · obtain ⟨j, rfl⟩ : ∃ j, k = n + 1 + j := ⟨k - (n + 1), by omega⟩
        have hj := hks j (by omega)
        rw [ent_ints hj.1]
        show H1[base + (n + 1 + j)]? = some (vp_cell (cy 0) (ln (n + 1 + j), .inl _))
        rw [show base + (n + 1 + j) = base + n + 1 + j by omega, h1 j (by omega), vp_cell_i, hj.2]
        refine congrArg some (congrArg (arrV (cy 0) K) (funext fun i => ?_))
        rw [(hW.2.2.2.2 (n + 1 + j) i (by omega)).1]
        rfl
  · unfold pRows
    rw [if_neg (by omega)]
    exact (hW.2.2.2.2 k i (by omega)).2
section GoMna
variable {S : Nat × (Nat → Int32)} {y : MethodName} {cc : ByteArray} {nL t mc ms : Nat} {ret : Option FieldType} {pc : Nat} {lv : List (Nat × PV)} {st : List PV} {n : Nat} {P : rfm} {M : inm} {Q : Post}
theorem go_mna {mc' ms' idx : Nat} {own : String} (d : decode cc pc = .ok (.multianewarray idx 2, 4)) (hw : Cond.classLink own idx "[[I" ∈ TB ∧ Cond.arrayOver (.array .int) ∈ NT ∧ Cond.arrayClass .int ∈ TB) (hown : y.cls = own) (hn : n + 6 < 303) (hk : kd n = 15) (hl6 : ln n = 6) (hks : ∀ j, j < 6 → kd (n + 1 + j) = 11 ∧ ln (n + 1 + j) = 8) (hm : mc = mc' + 7) (hs : ms = ms' + 54) (k : Go S y cc nL t mc' ms' ret (pc + 4) lv (vR n :: st) (n + 7) (pRows P n 6) M Q) : Go S y cc nL t mc ms ret pc lv (vI 8 :: vI 6 :: st) n P M Q := by
  intro p l e R s m args below meth c H locs cells slots base b D cy ls Qf hy hl ol os
  obtain ⟨hcx, hX, hbs, hW, hS, hroom, hEg⟩ := hy
  have hsz := hW.2.2.1 (by omega)
  have hts := hcx.2.2.2.2.1
  have hfc : s.vm.findClass own = some m.cls := by rw [← hown]; exact hcx.2.2.2.1
  intro T hT X
  obtain ⟨vm₁, cA, comp, -, fA, fC, hO, -, X', step⟩ := X.multianewarray2F (ty := .int) hcx.1 hfc (hts _ hw.1) (hcx.2.2.2.2.2.2.2.2.2.2 _ hw.2.1) (hts _ hw.2.2) (g := F0 m pc ls (.int (Int32.ofInt 8) :: .int (Int32.ofInt 6) :: st.map (rv base b))) rfl (by rw [hcx.2.1]; exact d) rfl (by decide) (by decide) (by decide) (by decide) (by decide) rfl rfl (by show cells + (1 + 6) ≤ _; omega) (by show slots + (6 + 6 * 8) ≤ _; omega)
  have ec : comp = cy 0 := Option.some.inj (fC.symm.trans (hW.1.2 0 (cy 0, .int) rfl).2)
  subst ec
  have ea : cA = cy 4 := Option.some.inj (fA.symm.trans (hW.1.2 4 (cy 4, .array .int) rfl).2)
  subst ea
  have hTh : (T.setVm vm₁).heap = H := hT
  have n6 : (Int32.ofInt 6).toNatClampNeg = 6 := by decide
  have n8 : (Int32.ofInt 8).toNatClampNeg = 8 := by decide
  rw [n6, n8] at X' step
  generalize hF : Jvm.Free.Multi.fill (T.setVm vm₁) (cy 4) (cy 0) 6 8 (defaultValue .int) 6 = F at X' step
  obtain ⟨f1, f2, -, -⟩ := Jvm.Free.Multi.fill_facts (T.setVm vm₁) (cy 4) (cy 0) 6 8 (defaultValue .int) 6
  rw [hF, hTh] at f1 f2
  have hold : ∀ x : Nat, x < base + n → F.heap[x]? = H[x]? := fun x hx => by
    have q := Jvm.Free.Multi.fill_old (T.setVm vm₁) (cy 4) (cy 0) 6 8 (defaultValue .int) (a := x) (by rw [hTh]; exact (show x < H.size by omega)) 6
    rw [hF, hTh] at q
    exact q
  have hrow : ∀ j : Nat, j < 6 → F.heap[base + n + 1 + j]? = some (arrV (cy 0) 8 (fun _ => .int 0)) := fun j hj => by
    have q := Jvm.Free.Multi.fill_inner (T.setVm vm₁) (cy 4) (cy 0) 6 8 (defaultValue .int) 6 j hj
    rw [hF, hTh, hsz] at q
    rw [q]
    exact congrArg some (arrV_new (cy 0) 8 (.int 0))
  have hout : F.heap[base + n]? = some (arrV (cy 4) 6 (fun j => va_rf (if j < 6 then some (base + n + 1 + j) else none))) := by
    rw [hsz, mn_outer] at f2
    exact f2
  have hz1 : F.heap.size = base + n + 1 + 6 := by rw [f1, hsz]
  obtain ⟨t9, a1, b1⟩ := k p l e R s m args below meth c F.heap locs (cells + 7) (slots + 54) base b D cy ls Qf ⟨hcx, hX, hbs, hW.rows hn hz1 hold hk hl6 hks hout hrow, ⟨by have := hS.1; omega, fun x h1 h2 => (hold x (by have := hS.1; omega)).trans (hS.2.1 x h1 h2), hS.2.2⟩, ⟨by omega, by omega⟩, hEg⟩ hl ol (ok_cons trivial (ok_tail (ok_tail os))) F rfl X'
  refine ⟨t9, step t9 ?_, b1⟩
  have e9 : T.heap.size = base + n := by rw [hT, hsz]
  rw [e9]
  exact a1
end GoMna
