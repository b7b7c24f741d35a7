/-! ===== Reader: types, clauses, texts ===== -/
def numP (T : Nat → Int) (n p : Nat) : Nat := skp T n (dig T n (skp T n p))
theorem numP_in {T : Nat → Int} {n p : Nat} (h : p ≤ n) : p ≤ numP T n p ∧ numP T n p ≤ n := by
  have h1 := skp_in (T := T) h
  have h2 := dig_in (T := T) h1.2
  have h3 := skp_in (T := T) h2.2
  unfold numP
  omega
theorem mNum_at {M : inm} {n p : Nat} {lo hi : Int} : mNum M n p lo hi 1 3 = ((numP (fun j => M 2 j) n p : Nat) : Int) := up2_same
theorem mNum_ne {M : inm} {n p x j : Nat} {lo hi : Int} (h : x ≠ 1 ∨ (j ≠ 3 ∧ j ≠ 4 ∧ j ≠ 5)) : mNum M n p lo hi x j = M x j := by
  unfold mNum
  rw [up2_ne (by omega)]
  split
  · rw [up2_ne (by omega)]
  · rw [mBlame_ne (by omega), up2_ne (by omega)]
/-- the KINDS of a TYPE from p on, c of them read: the memory, where it ends, how many -/
def tyS (n : Nat) : Nat → inm → Nat → Nat → inm × Nat × Nat
  | 0, M, p, c => (M, p, c)
  | d + 1, M, p, c => if c + 1 < 8 ∧ numP (fun j => M 2 j) n p < n ∧ M 2 (numP (fun j => M 2 j) n p) = 44 then tyS n d (up2 (up2 (mNum M n p 0 4) 3 c (numV M n p)) 1 3 ((numP (fun j => M 2 j) n p + 1 : Nat) : Int)) (numP (fun j => M 2 j) n p + 1) (c + 1) else (up2 (mNum M n p 0 4) 3 c (numV M n p), numP (fun j => M 2 j) n p, c + 1)
theorem tyS_keep {n : Nat} : ∀ d (M : inm) p c, p ≤ n → c + d = 8 → 0 < d → (tyS n d M p c).2.1 ≤ n ∧ p ≤ (tyS n d M p c).2.1 ∧ c < (tyS n d M p c).2.2 ∧ (tyS n d M p c).2.2 ≤ 8 ∧ (tyS n d M p c).1 1 3 = (((tyS n d M p c).2.1 : Nat) : Int) ∧ ∀ x j, (x ≠ 1 ∨ (j ≠ 3 ∧ j ≠ 4 ∧ j ≠ 5)) → x ≠ 3 → (tyS n d M p c).1 x j = M x j
  | 0, _, _, _, _, _, h => absurd h (by omega)
  | d + 1, M, p, c, hp, hc, _ => by
    have hb := numP_in (T := fun j => M 2 j) hp
    rw [tyS]
    split
    · next h =>
      have ih := tyS_keep (n := n) d (up2 (up2 (mNum M n p 0 4) 3 c (numV M n p)) 1 3 ((numP (fun j => M 2 j) n p + 1 : Nat) : Int)) (numP (fun j => M 2 j) n p + 1) (c + 1) (by omega) (by omega) (by omega)
      refine ⟨ih.1, by omega, by omega, ih.2.2.2.1, ih.2.2.2.2.1, fun x j h1 h2 => ?_⟩
      rw [ih.2.2.2.2.2 x j h1 h2, up2_ne (by omega), up2_ne (by omega), mNum_ne h1]
    · exact ⟨hb.2, hb.1, by show c < c + 1; omega, by show c + 1 ≤ 8; omega, (up2_ne (f := mNum M n p 0 4) (a := 3) (i := c) (x := 1) (j := 3) (v := numV M n p) (by omega)).trans mNum_at, fun x j h1 h2 => (up2_ne (f := mNum M n p 0 4) (a := 3) (i := c) (x := x) (j := j) (v := numV M n p) (by omega)).trans (mNum_ne h1)⟩
set_option maxHeartbeats 4000000 in
set_option maxRecDepth 100000 in
theorem lp_X7_readType {w n v : Nat} {M0 : inm} {Q : Nat → rfm → inm → Prop} (hv : Cs v) (h240 : n ≤ 240) (ht : ∀ j, j < n → 0 ≤ M0 2 j ∧ M0 2 j ≤ 255) : ∀ d c, c + d = 8 → 0 < d → ∀ (M' : inm) (p : Nat), M' 1 2 = (n : Int) → M' 1 3 = (p : Int) → p ≤ n → (∀ j, M' 2 j = M0 2 j) → (∀ M2 p2 c2, (M2, p2, c2) = tyS n d M' p c → Go S0 yX7_readType cX7_readType 4 2 0 0 none 67 [(2, vI ((c2 : Nat) : Int)), (0, vR 1), (1, vR v)] [] 303 (PP w) M2 (fun v n P M => v = none ∧ Q n P M)) → Go S0 yX7_readType cX7_readType 4 2 0 0 none 4 [(2, vI ((c : Nat) : Int)), (3, vI 1), (0, vR 1), (1, vR v)] [] 303 (PP w) M' (fun v n P M => v = none ∧ Q n P M) := by
  intro d
  induction d with
  | zero => intro c h1 h2; exfalso; omega
  | succ d ih =>
    intro c h1 h2 M' p hn hp hpn hT kk
    have hTf : (fun j => M' 2 j) = (fun j => M0 2 j) := funext hT
    refine go_iload_n 1 dX7_readType_4 rfl rfl ?_
    refine go_if_eq (tgt := 67) dX7_readType_5 rfl (fun c1 => ?_) (fun c1 => ?_)
    · exact absurd c1 (by omega)
    · refine go_iload_n 0 dX7_readType_8 rfl rfl ?_
      refine go_bipush dX7_readType_9 (by decide) (by decide) ?_
      refine go_icmp_ge (tgt := 67) dX7_readType_11 rfl (fun c2 => ?_) (fun c2 => ?_)
      · exact absurd c2 (by omega)
      · refine go_aload_n 2 dX7_readType_14 rfl rfl ?_
        refine go_getR (r := 3) dX7_readType_15 lk7_15.get kd_1 (by omega) rfl (pp_1_1 w) ?_
        refine go_iload_n 0 dX7_readType_18 rfl rfl ?_
        refine go_aload_n 2 dX7_readType_19 rfl rfl ?_
        refine go_iconst dX7_readType_20 (by decide) ?_
        refine go_iconst dX7_readType_21 (by decide) ?_
        refine go_callVI (av := [vI 0, vI 4]) (st := [vI ((c : Nat) : Int), vR 3]) (a := 1) (mc2 := 0) (ms2 := 0) dX7_readType_22 cw7_67 (by decide) rfl rfl (Nat.le_of_ble_eq_true rfl) rfl rfl kd_1 ⟨_, _, rfl⟩ (by decide) (by omega) (ok_X7_readNumber (n := n) (p := p) (M := M') hn hp h240 (by omega) (fun j hj => by rw [show M' 2 j = M0 2 j from (hT j)]; exact ht j hj) ?_)
        have q3 := numP_in (T := (fun j => M0 2 j)) (n := n) (p := p) (by omega)
        refine gx_iastore c dX7_readType_25 kd_3 (by omega) ln_3 rfl (by omega) ?_
        refine gx_iinc (v := ((c + 1 : Nat) : Int)) (lv' := [(2, vI ((c + 1 : Nat) : Int)), (3, vI 1), (0, vR 1), (1, vR v)]) 0 dX7_readType_26 rfl (by omega) ⟨by omega, by omega⟩ (by decide) rfl ?_
        refine go_iload_n 0 dX7_readType_29 rfl rfl ?_
        refine go_bipush dX7_readType_30 (by decide) (by decide) ?_
        refine go_icmp_ge (tgt := 48) dX7_readType_32 rfl (fun c4 => ?_) (fun c4 => ?_)
        · refine go_iconst dX7_readType_48 (by decide) ?_
          refine go_istore_n (lv' := [(3, vI 0), (2, vI ((c + 1 : Nat) : Int)), (0, vR 1), (1, vR v)]) dX7_readType_49 rfl (by decide) rfl ?_
          refine go_iload_n 0 dX7_readType_50 rfl rfl ?_
          refine go_if_eq (tgt := 4) dX7_readType_51 rfl (fun c5 => ?_) (fun c5 => ?_)
          · refine go_iload_n 0 dX7_readType_4 rfl rfl ?_
            refine go_if_eq (tgt := 67) dX7_readType_5 rfl (fun c6 => ?_) (fun c6 => ?_)
            · refine go_lv [1, 2, 3] rfl ?_
              refine kk _ (numP (fun j => M0 2 j) n p) _ ?_
              rw [tyS, hTf, hT, if_neg (by omega)]
            · exact absurd rfl c6
          · exact absurd c5 (by decide)
        · refine go_aload_n 2 dX7_readType_35 rfl rfl ?_
          refine go_callVI (av := []) (st := []) (a := 1) (mc2 := 0) (ms2 := 0) dX7_readType_36 cw7_48 (by decide) rfl rfl (Nat.le_of_ble_eq_true rfl) rfl rfl kd_1 ⟨_, _, rfl⟩ (by decide) (by omega) (ok_X7_here (n := n) (p := numP (fun j => M0 2 j) n p) (M := (up2 (mNum M' n p 0 4) 3 c (numV M' n p))) ((up2_ne (by omega)).trans (((mNum_ne (by omega))).trans hn)) ((up2_ne (by omega)).trans ((mNum_at.trans (by rw [show (fun j => M' 2 j) = (fun j => M0 2 j) from funext (fun j => (hT j))])))) h240 (by omega) (fun g7 => ?_) (fun g8 => ?_))
          · rw [show (up2 (mNum M' n p 0 4) 3 c (numV M' n p)) 2 (numP (fun j => M0 2 j) n p) = M0 2 (numP (fun j => M0 2 j) n p) from ((up2_ne (by omega)).trans (((mNum_ne (by omega))).trans ((hT (numP (fun j => M0 2 j) n p)))))]
            refine go_bipush dX7_readType_39 (by decide) (by decide) ?_
            refine go_icmp_ne (tgt := 48) dX7_readType_41 rfl (fun c9 => ?_) (fun c9 => ?_)
            · refine go_iconst dX7_readType_48 (by decide) ?_
              refine go_istore_n (lv' := [(3, vI 0), (2, vI ((c + 1 : Nat) : Int)), (0, vR 1), (1, vR v)]) dX7_readType_49 rfl (by decide) rfl ?_
              refine go_iload_n 0 dX7_readType_50 rfl rfl ?_
              refine go_if_eq (tgt := 4) dX7_readType_51 rfl (fun c10 => ?_) (fun c10 => ?_)
              · refine go_iload_n 0 dX7_readType_4 rfl rfl ?_
                refine go_if_eq (tgt := 67) dX7_readType_5 rfl (fun c11 => ?_) (fun c11 => ?_)
                · refine go_lv [1, 2, 3] rfl ?_
                  refine kk _ (numP (fun j => M0 2 j) n p) _ ?_
                  rw [tyS, hTf, hT, if_neg (by omega)]
                · exact absurd rfl c11
              · exact absurd c10 (by decide)
            · refine go_iconst dX7_readType_44 (by decide) ?_
              refine go_goto (tgt := 49) dX7_readType_45 rfl ?_
              refine go_istore_n (lv' := [(3, vI 1), (2, vI ((c + 1 : Nat) : Int)), (0, vR 1), (1, vR v)]) dX7_readType_49 rfl (by decide) rfl ?_
              refine go_iload_n 0 dX7_readType_50 rfl rfl ?_
              refine go_if_eq (tgt := 4) dX7_readType_51 rfl (fun c12 => ?_) (fun c12 => ?_)
              · exact absurd c12 (by decide)
              · refine go_aload_n 2 dX7_readType_54 rfl rfl ?_
                refine go_dup dX7_readType_55 rfl ?_
                refine gx_getI (v := ((numP (fun j => M0 2 j) n p : Nat) : Int)) dX7_readType_56 lk7_22.get kd_1 (by omega) rfl ((up2_ne (by omega)).trans ((mNum_at.trans (by rw [show (fun j => M' 2 j) = (fun j => M0 2 j) from funext (fun j => (hT j))])))) ?_
                refine go_iconst dX7_readType_59 (by decide) ?_
                refine gx_iadd (v := ((numP (fun j => M0 2 j) n p + 1 : Nat) : Int)) dX7_readType_60 (by omega) ⟨by omega, by omega⟩ ?_
                refine go_putI dX7_readType_61 (Or.inl lk7_22) kd_1 (by omega) rfl (Or.inl rfl) ?_
                refine go_goto (tgt := 4) dX7_readType_64 rfl ?_
                refine go_lv [1, 0, 2, 3] rfl ?_
                refine ih (c + 1) (by omega) (by omega) _ (numP (fun j => M0 2 j) n p + 1) ((up2_ne (by omega)).trans ((up2_ne (by omega)).trans (((mNum_ne (by omega))).trans hn))) up2_same (by omega) (fun j => ((up2_ne (by omega)).trans ((up2_ne (by omega)).trans (((mNum_ne (by omega))).trans ((hT j)))))) (fun M2 p2 c2 h => kk M2 p2 c2 ?_)
                rw [h, tyS, hTf, hT, if_pos ⟨by omega, by omega, by omega⟩]
          · skip
            refine go_bipush dX7_readType_39 (by decide) (by decide) ?_
            refine go_icmp_ne (tgt := 48) dX7_readType_41 rfl (fun c13 => ?_) (fun c13 => ?_)
            · refine go_iconst dX7_readType_48 (by decide) ?_
              refine go_istore_n (lv' := [(3, vI 0), (2, vI ((c + 1 : Nat) : Int)), (0, vR 1), (1, vR v)]) dX7_readType_49 rfl (by decide) rfl ?_
              refine go_iload_n 0 dX7_readType_50 rfl rfl ?_
              refine go_if_eq (tgt := 4) dX7_readType_51 rfl (fun c14 => ?_) (fun c14 => ?_)
              · refine go_iload_n 0 dX7_readType_4 rfl rfl ?_
                refine go_if_eq (tgt := 67) dX7_readType_5 rfl (fun c15 => ?_) (fun c15 => ?_)
                · refine go_lv [1, 2, 3] rfl ?_
                  refine kk _ (numP (fun j => M0 2 j) n p) _ ?_
                  rw [tyS, hTf, hT, if_neg (by omega)]
                · exact absurd rfl c15
              · exact absurd c14 (by decide)
            · exact absurd c13 (by decide)

def mType (M0 : inm) (v n p k : Nat) : inm := maddType (tyS n 8 M0 p 0).1 v k (tyS n 8 M0 p 0).2.2
set_option maxHeartbeats 4000000 in
set_option maxRecDepth 100000 in
theorem ok_X7_readType {w n p v k : Nat} {M0 : inm} {Q : Nat → rfm → inm → Prop} (hv : Cs v) (hn : M0 1 2 = (n : Int)) (hp : M0 1 3 = (p : Int)) (h240 : n ≤ 240) (hpn : p ≤ n) (ht : ∀ j, j < n → 0 ≤ M0 2 j ∧ M0 2 j ≤ 255) (hk : M0 v 4 = (k : Int)) (h6 : k < 6) (hQ : Q 303 (PP w) (mType M0 v n p k)) : OkV yX7_readType cX7_readType 4 2 0 0 [vR 1, vR v] 303 (PP w) M0 Q := by
  refine OkV.of (by decide +kernel) (by decide +kernel) (Nat.le_of_ble_eq_true rfl) ?_
  refine go_eq (lv' := [(0, vR 1), (1, vR v)]) rfl rfl rfl rfl rfl ?_
  have hvs := hv.sc
  have hv4 : 4 ≤ v := by rcases hv with rfl | rfl <;> decide
  have hty := tyS_keep (n := n) 8 M0 p 0 hpn rfl (by omega)
  refine go_iconst dX7_readType_0 (by decide) ?_
  refine go_istore_n (lv' := [(2, vI 0), (0, vR 1), (1, vR v)]) dX7_readType_1 rfl (by decide) rfl ?_
  refine go_iconst dX7_readType_2 (by decide) ?_
  refine go_istore_n (lv' := [(3, vI 1), (2, vI 0), (0, vR 1), (1, vR v)]) dX7_readType_3 rfl (by decide) rfl ?_
  refine go_lv [1, 0, 2, 3] rfl ?_
  refine lp_X7_readType hv h240 ht 8 0 (by omega) (by omega) M0 p hn hp hpn (fun _ => rfl) (fun M2 p2 c2 h => ?_)
  have hM2 : M2 = (tyS n 8 M0 p 0).1 := congrArg Prod.fst h
  have hc2 : c2 = (tyS n 8 M0 p 0).2.2 := congrArg (fun q => q.2.2) h
  refine go_aload_n 2 dX7_readType_67 rfl rfl ?_
  refine go_aload_n 1 dX7_readType_68 rfl rfl ?_
  refine go_getR (r := 3) dX7_readType_69 lk7_15.get kd_1 (by omega) rfl (pp_1_1 w) ?_
  refine go_iload_n 0 dX7_readType_72 rfl rfl ?_
  refine go_callVV (av := [vR 3, vI ((c2 : Nat) : Int)]) (st := []) (a := v) (mc2 := 0) (ms2 := 0) dX7_readType_73 cw7_80 (by decide) rfl rfl (Nat.le_of_ble_eq_true rfl) rfl rfl hv.k0 ⟨_, _, rfl⟩ (by decide) hv.l0 (ok_X1_addType (n := k) (u := c2) (M := M2) hv (by rw [hM2, hty.2.2.2.2.2 v 4 (by omega) (by omega)]; exact hk) h6 (by rw [hc2]; exact hty.2.2.2.1) ?_)
  refine go_ret dX7_readType_76 rfl ⟨rfl, ?_⟩
  rw [hM2, hc2]
  exact hQ

def mRest (M0 : inm) (v n p : Nat) (c : Int) (L E T : Nat) : inm := if c = 109 then up2 (mNum M0 n p 0 99) v 1 (numV M0 n p) else if c = 108 then maddLayer (mNum (mNum M0 n p 0 4) n (numP (fun j => M0 2 j) n p) 1 20) v L (numV M0 n p) (numV (mNum M0 n p 0 4) n (numP (fun j => M0 2 j) n p)) else if c = 101 then maddExecutor (mNum (mNum M0 n p 0 9) n (numP (fun j => M0 2 j) n p) 1 9) v E (numV M0 n p) (numV (mNum M0 n p 0 9) n (numP (fun j => M0 2 j) n p)) else mType M0 v n p T
set_option maxHeartbeats 4000000 in
set_option maxRecDepth 100000 in
theorem ok_X7_readRest {w n p v L E T : Nat} {c : Int} {M0 : inm} {Q : Nat → rfm → inm → Prop} (hv : Cs v) (hn : M0 1 2 = (n : Int)) (hp : M0 1 3 = (p : Int)) (h240 : n ≤ 240) (hpn : p ≤ n) (ht : ∀ j, j < n → 0 ≤ M0 2 j ∧ M0 2 j ≤ 255) (hL : M0 v 2 = (L : Int) ∧ (c = 108 → L < 12)) (hE : M0 v 3 = (E : Int) ∧ (c = 101 → E < 5)) (hT : M0 v 4 = (T : Int) ∧ (¬ c = 109 → ¬ c = 108 → ¬ c = 101 → T < 6)) (hQ : Q 303 (PP w) (mRest M0 v n p c L E T)) : OkV yX7_readRest cX7_readRest 4 3 0 0 [vR 1, vI c, vR v] 303 (PP w) M0 Q := by
  refine OkV.of (by decide +kernel) (by decide +kernel) (Nat.le_of_ble_eq_true rfl) ?_
  refine go_eq (lv' := [(0, vR 1), (1, vI c), (2, vR v)]) rfl rfl rfl rfl rfl ?_
  have hvs := hv.sc
  have hv4 : 4 ≤ v := by rcases hv with rfl | rfl <;> decide
  refine go_iload_n 1 dX7_readRest_0 rfl rfl ?_
  refine go_bipush dX7_readRest_1 (by decide) (by decide) ?_
  refine go_icmp_ne (tgt := 20) dX7_readRest_3 rfl (fun c1 => ?_) (fun c1 => ?_)
  · refine go_iload_n 1 dX7_readRest_20 rfl rfl ?_
    refine go_bipush dX7_readRest_21 (by decide) (by decide) ?_
    refine go_icmp_ne (tgt := 48) dX7_readRest_23 rfl (fun c2 => ?_) (fun c2 => ?_)
    · refine go_iload_n 1 dX7_readRest_48 rfl rfl ?_
      refine go_bipush dX7_readRest_49 (by decide) (by decide) ?_
      refine go_icmp_ne (tgt := 77) dX7_readRest_51 rfl (fun c3 => ?_) (fun c3 => ?_)
      · refine go_aload_n 0 dX7_readRest_77 rfl rfl ?_
        refine go_aload_n 2 dX7_readRest_78 rfl rfl ?_
        refine go_callVV (av := [vR v]) (st := []) (a := 1) (mc2 := 0) (ms2 := 0) dX7_readRest_79 cw7_77 (by decide) rfl rfl (Nat.le_of_ble_eq_true rfl) rfl rfl kd_1 ⟨_, _, rfl⟩ (by decide) (by omega) (ok_X7_readType (k := T) hv hn hp h240 hpn ht hT.1 (hT.2 (by omega) (by omega) (by omega)) ?_)
        refine go_ret dX7_readRest_82 rfl ⟨rfl, ?_⟩
        rw [mRest] at hQ
        first | (rw [if_pos (by omega)] at hQ; exact hQ) | (rw [if_neg (by omega), if_pos (by omega)] at hQ; exact hQ) | (rw [if_neg (by omega), if_neg (by omega), if_pos (by omega)] at hQ; exact hQ) | (rw [if_neg (by omega), if_neg (by omega), if_neg (by omega)] at hQ; exact hQ)
      · refine go_aload_n 0 dX7_readRest_54 rfl rfl ?_
        refine go_iconst dX7_readRest_55 (by decide) ?_
        refine go_bipush dX7_readRest_56 (by decide) (by decide) ?_
        refine go_callVI (av := [vI 0, vI 9]) (st := []) (a := 1) (mc2 := 0) (ms2 := 0) dX7_readRest_58 cw7_67 (by decide) rfl rfl (Nat.le_of_ble_eq_true rfl) rfl rfl kd_1 ⟨_, _, rfl⟩ (by decide) (by omega) (ok_X7_readNumber (n := n) (p := p) (M := M0) hn hp h240 (by omega) (fun j hj => by rw [show M0 2 j = M0 2 j from rfl]; exact ht j hj) ?_)
        have q4 := numP_in (T := (fun j => M0 2 j)) (n := n) (p := p) (by omega)
        refine go_istore_n (lv' := [(3, vI (numV M0 n p)), (0, vR 1), (1, vI c), (2, vR v)]) dX7_readRest_61 rfl (by decide) rfl ?_
        refine go_aload_n 3 dX7_readRest_62 rfl rfl ?_
        refine go_iload_n 0 dX7_readRest_63 rfl rfl ?_
        refine go_aload_n 1 dX7_readRest_64 rfl rfl ?_
        refine go_iconst dX7_readRest_65 (by decide) ?_
        refine go_bipush dX7_readRest_66 (by decide) (by decide) ?_
        refine go_callVI (av := [vI 1, vI 9]) (st := [vI (numV M0 n p), vR v]) (a := 1) (mc2 := 0) (ms2 := 0) dX7_readRest_68 cw7_67 (by decide) rfl rfl (Nat.le_of_ble_eq_true rfl) rfl rfl kd_1 ⟨_, _, rfl⟩ (by decide) (by omega) (ok_X7_readNumber (n := n) (p := numP (fun j => M0 2 j) n p) (M := (mNum M0 n p 0 9)) (((mNum_ne (by omega))).trans hn) ((mNum_at.trans (by rw [show (fun j => M0 2 j) = (fun j => M0 2 j) from funext (fun j => rfl)]))) h240 (by omega) (fun j hj => by rw [show (mNum M0 n p 0 9) 2 j = M0 2 j from ((mNum_ne (by omega)))]; exact ht j hj) ?_)
        have q5 := numP_in (T := (fun j => M0 2 j)) (n := n) (p := numP (fun j => M0 2 j) n p) (by omega)
        refine go_callVV (av := [vI (numV M0 n p), vI (numV (mNum M0 n p 0 9) n (numP (fun j => M0 2 j) n p))]) (st := []) (a := v) (mc2 := 0) (ms2 := 0) dX7_readRest_71 cw7_74 (by decide) rfl rfl (Nat.le_of_ble_eq_true rfl) rfl rfl hv.k0 ⟨_, _, rfl⟩ (by decide) hv.l0 (ok_X1_addExecutor (n := E) (M := (mNum (mNum M0 n p 0 9) n (numP (fun j => M0 2 j) n p) 1 9)) hv (((mNum_ne (by omega))).trans ((((mNum_ne (by omega))).trans hE.1))) (hE.2 (by omega)) ?_)
        refine go_goto (tgt := 82) dX7_readRest_74 rfl ?_
        refine go_ret dX7_readRest_82 rfl ⟨rfl, ?_⟩
        rw [mRest] at hQ
        first | (rw [if_pos (by omega)] at hQ; exact hQ) | (rw [if_neg (by omega), if_pos (by omega)] at hQ; exact hQ) | (rw [if_neg (by omega), if_neg (by omega), if_pos (by omega)] at hQ; exact hQ) | (rw [if_neg (by omega), if_neg (by omega), if_neg (by omega)] at hQ; exact hQ)
    · refine go_aload_n 0 dX7_readRest_26 rfl rfl ?_
      refine go_iconst dX7_readRest_27 (by decide) ?_
      refine go_iconst dX7_readRest_28 (by decide) ?_
      refine go_callVI (av := [vI 0, vI 4]) (st := []) (a := 1) (mc2 := 0) (ms2 := 0) dX7_readRest_29 cw7_67 (by decide) rfl rfl (Nat.le_of_ble_eq_true rfl) rfl rfl kd_1 ⟨_, _, rfl⟩ (by decide) (by omega) (ok_X7_readNumber (n := n) (p := p) (M := M0) hn hp h240 (by omega) (fun j hj => by rw [show M0 2 j = M0 2 j from rfl]; exact ht j hj) ?_)
      have q6 := numP_in (T := (fun j => M0 2 j)) (n := n) (p := p) (by omega)
      refine go_istore_n (lv' := [(3, vI (numV M0 n p)), (0, vR 1), (1, vI c), (2, vR v)]) dX7_readRest_32 rfl (by decide) rfl ?_
      refine go_aload_n 3 dX7_readRest_33 rfl rfl ?_
      refine go_iload_n 0 dX7_readRest_34 rfl rfl ?_
      refine go_aload_n 1 dX7_readRest_35 rfl rfl ?_
      refine go_iconst dX7_readRest_36 (by decide) ?_
      refine go_bipush dX7_readRest_37 (by decide) (by decide) ?_
      refine go_callVI (av := [vI 1, vI 20]) (st := [vI (numV M0 n p), vR v]) (a := 1) (mc2 := 0) (ms2 := 0) dX7_readRest_39 cw7_67 (by decide) rfl rfl (Nat.le_of_ble_eq_true rfl) rfl rfl kd_1 ⟨_, _, rfl⟩ (by decide) (by omega) (ok_X7_readNumber (n := n) (p := numP (fun j => M0 2 j) n p) (M := (mNum M0 n p 0 4)) (((mNum_ne (by omega))).trans hn) ((mNum_at.trans (by rw [show (fun j => M0 2 j) = (fun j => M0 2 j) from funext (fun j => rfl)]))) h240 (by omega) (fun j hj => by rw [show (mNum M0 n p 0 4) 2 j = M0 2 j from ((mNum_ne (by omega)))]; exact ht j hj) ?_)
      have q7 := numP_in (T := (fun j => M0 2 j)) (n := n) (p := numP (fun j => M0 2 j) n p) (by omega)
      refine go_callVV (av := [vI (numV M0 n p), vI (numV (mNum M0 n p 0 4) n (numP (fun j => M0 2 j) n p))]) (st := []) (a := v) (mc2 := 0) (ms2 := 0) dX7_readRest_42 cw7_71 (by decide) rfl rfl (Nat.le_of_ble_eq_true rfl) rfl rfl hv.k0 ⟨_, _, rfl⟩ (by decide) hv.l0 (ok_X1_addLayer (n := L) (M := (mNum (mNum M0 n p 0 4) n (numP (fun j => M0 2 j) n p) 1 20)) hv (((mNum_ne (by omega))).trans ((((mNum_ne (by omega))).trans hL.1))) (hL.2 (by omega)) ?_)
      refine go_goto (tgt := 82) dX7_readRest_45 rfl ?_
      refine go_ret dX7_readRest_82 rfl ⟨rfl, ?_⟩
      rw [mRest] at hQ
      first | (rw [if_pos (by omega)] at hQ; exact hQ) | (rw [if_neg (by omega), if_pos (by omega)] at hQ; exact hQ) | (rw [if_neg (by omega), if_neg (by omega), if_pos (by omega)] at hQ; exact hQ) | (rw [if_neg (by omega), if_neg (by omega), if_neg (by omega)] at hQ; exact hQ)
  · refine go_aload_n 2 dX7_readRest_6 rfl rfl ?_
    refine go_aload_n 0 dX7_readRest_7 rfl rfl ?_
    refine go_iconst dX7_readRest_8 (by decide) ?_
    refine go_bipush dX7_readRest_9 (by decide) (by decide) ?_
    refine go_callVI (av := [vI 0, vI 99]) (st := [vR v]) (a := 1) (mc2 := 0) (ms2 := 0) dX7_readRest_11 cw7_67 (by decide) rfl rfl (Nat.le_of_ble_eq_true rfl) rfl rfl kd_1 ⟨_, _, rfl⟩ (by decide) (by omega) (ok_X7_readNumber (n := n) (p := p) (M := M0) hn hp h240 (by omega) (fun j hj => by rw [show M0 2 j = M0 2 j from rfl]; exact ht j hj) ?_)
    have q8 := numP_in (T := (fun j => M0 2 j)) (n := n) (p := p) (by omega)
    refine go_putI (fin := false) dX7_readRest_14 (Or.inr ⟨lk7_52, rfl⟩) hv.k0 hv.l0 rfl (Or.inl rfl) ?_
    refine go_goto (tgt := 82) dX7_readRest_17 rfl ?_
    refine go_ret dX7_readRest_82 rfl ⟨rfl, ?_⟩
    rw [mRest] at hQ
    first | (rw [if_pos (by omega)] at hQ; exact hQ) | (rw [if_neg (by omega), if_pos (by omega)] at hQ; exact hQ) | (rw [if_neg (by omega), if_neg (by omega), if_pos (by omega)] at hQ; exact hQ) | (rw [if_neg (by omega), if_neg (by omega), if_neg (by omega)] at hQ; exact hQ)

