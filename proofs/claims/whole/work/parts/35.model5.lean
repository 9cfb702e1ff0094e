/-! ===== the reference: chances, sorts, asks, walks ===== -/
theorem fold_add {α : Type} {f : Nat → α → α} : ∀ (n m i : Nat) (x : α), fold f (n + m) i x = fold f m (i + n) (fold f n i x) := by
  intro n
  induction n with
  | zero => intro m i x; rw [Nat.zero_add]; rfl
  | succ n ih =>
    intro m i x
    rw [show n + 1 + m = (n + m) + 1 by omega]
    simp only [fold]
    rw [ih, show i + 1 + n = i + (n + 1) by omega]
theorem fold_id {α : Type} {f : Nat → α → α} : ∀ (n i : Nat) (x : α), (∀ j y, i ≤ j → j < i + n → f j y = y) → fold f n i x = x := by
  intro n
  induction n with
  | zero => intro i x _; rfl
  | succ n ih =>
    intro i x h
    simp only [fold]
    rw [h i x (Nat.le_refl _) (by omega)]
    exact ih _ _ (fun j y h1 h2 => h j y (by omega) (by omega))
theorem sizeFrom_fold (S : Nat) : ∀ n i m, sizeFrom S n i m = fold (fun j m => m + (S.testBit j).toNat) n i m := by
  intro n
  induction n with
  | zero => intro i m; rfl
  | succ n ih => intro i m; exact ih _ _
/-- a set within n counts the same over n alone -/
theorem pop_n {S N : Nat} (hN : N ≤ 12) (h : ∀ i, N ≤ i → S.testBit i = false) : fold (fun j m => m + (S.testBit j).toNat) N 0 0 = pop S := by
  unfold pop
  rw [sizeFrom_fold, show (12 : Nat) = N + (12 - N) by omega, fold_add]
  exact (fold_id _ _ _ (fun j y h1 _ => by rw [h j (by omega)]; rfl)).symm
theorem sum_n {S N : Nat} {ch g : Nat → Nat} (hN : N ≤ 12) (h : ∀ i, N ≤ i → S.testBit i = false) (hg : ∀ i, i < N → ch i = g i) : fold (fun c s => s + if S.testBit c = true then ch c else 0) N 0 0 = sumSet g S := by
  unfold sumSet
  rw [show (12 : Nat) = N + (12 - N) by omega, fold_add]
  rw [fold_id (12 - N) _ _ (fun j y h1 _ => by rw [h j (by omega)]; rfl)]
  exact fold_congr _ _ _ (fun j y _ h2 => by by_cases hb : S.testBit j = true; (rw [if_pos hb, if_pos hb, hg j (by omega)]); (rw [if_neg hb, if_neg hb, Nat.add_zero]))
def mayF (C N fr k oth c : Nat) : Nat := ad (fanF C N k c &&& fr) oth
theorem may_out {C N fr k oth c i : Nat} (hc : c < N) (h : N ≤ i) : (mayF C N fr k oth c).testBit i = false := by
  cases e : (mayF C N fr k oth c).testBit i with
  | false => rfl
  | true =>
    have := (and_tb.mp (ad_tbP.mp e).1).1
    rw [fan_tb hc, decide_eq_false (by omega)] at this
    cases this
section
variable {w : mW} {bd R C fr lp lps sn sz : Nat} {wh : Bool} {nc nf nl tl : Nat} {sd : Int64} {ik : Bool} {kb kf kl kn : Nat} {hh : Int64} {ks sts pg sof rr cc cn : Nat → Nat}
def avF (g : Nat → Nat) (S : Nat) : Int32 := if pop S = 0 then -1 else nI (sumSet g S / pop S)
theorem m_chanceFrom {ch g : Nat → Nat} (hm : w[33]? = some (oM bd R C fr lp lps sn sz wh nc nf nl tl sd ik kb kf kl kn hh)) (h44 : w[44]? = some (nA 12 ch)) (hN : R * C ≤ 12) (hfr : fr < 4096) (hg : ∀ i, i < R * C → ch i = g i) (hg2 : ∀ i, g i ≤ 1000000) (k c oth : Nat) (hk : k < 5) (hc : c < R * C) : JR 3 mX6_chanceFrom [.ref 33, .int (nI k), .int (nI c), .int (nI oth)] w (.int (avF g (mayF C (R * C) fr k oth c))) w := by
  have hmb : mayF C (R * C) fr k oth c < 4096 := ad_b (and_bR hfr)
  have hout := fun i h => may_out (C := C) (N := R * C) (fr := fr) (k := k) (oth := oth) (c := c) (i := i) hc h
  have hsum := sum_le (ch := g) (S := mayF C (R * C) fr k oth c) hg2 12 0 0
  have hs31 : sumSet g (mayF C (R * C) fr k oth c) < 2 ^ 31 := by unfold sumSet; omega
  have hpl := pop_le (mayF C (R * C) fr k oth c)
  have L : ∀ (n e m s : Nat), e + n = R * C → fold (fun j m => m + ((mayF C (R * C) fr k oth c).testBit j).toNat) n e m = pop (mayF C (R * C) fr k oth c) → fold (fun c2 s => s + if (mayF C (R * C) fr k oth c).testBit c2 = true then ch c2 else 0) n e s = sumSet g (mayF C (R * C) fr k oth c) → J 3 mX6_chanceFrom 21 [.ref 33, .int (nI k), .int (nI c), .int (nI oth), .int (nI (mayF C (R * C) fr k oth c)), .int (nI m), .int (nI s), .int (nI e)] [] w (fun v u => v = some (.int (avF g (mayF C (R * C) fr k oth c))) ∧ u = w) := by
    intro n
    induction n with
    | zero =>
      intro e m s he h1 h2
      have e1 : m = pop (mayF C (R * C) fr k oth c) := h1
      have e2 : s = sumSet g (mayF C (R * C) fr k oth c) := h2
      subst e1; subst e2
      refine j_iload iX6_chanceFrom_21 rfl ?_
      refine j_aload_n iX6_chanceFrom_23 rfl ?_
      refine j_V0R okX6_cells lk_X6_131 iX6_chanceFrom_24 (by omega) (by repeat (first | assumption | refine wset_ne (by decide) ?_ | exact wset_lt (by (try simp only [List.length_set]); exact wsome (by assumption)))) rfl (m_cells hm) rfl (Nat.le_of_ble_eq_true rfl) (Nat.le_of_ble_eq_true rfl) ?_
      refine j_icmp_geN (tgt := 74) iX6_chanceFrom_27 (by decide) (by omega) (by omega) (fun _ => ?_) (fun hno => by exfalso; omega)
      refine j_iload iX6_chanceFrom_74 rfl ?_
      refine j_if_neN (tgt := 83) iX6_chanceFrom_76 (by decide) (by omega) (fun h76 => ?_) (fun h76 => ?_)
      · refine j_iload iX6_chanceFrom_83 rfl ?_
        refine j_iload iX6_chanceFrom_85 rfl ?_
        refine j_idivN iX6_chanceFrom_87 hs31 (by omega) (by omega) ?_
        refine j_iret iX6_chanceFrom_88 rfl (by first | rfl | exact nar_bI _ | exact nar_bP) (⟨by unfold avF; first | rw [if_neg h76] | rw [if_pos h76], rfl⟩)
      · refine j_iconst (v := (-1)) iX6_chanceFrom_79 (by decide) ?_
        refine j_goto (tgt := 88) iX6_chanceFrom_80 (by decide) ?_
        refine j_iret iX6_chanceFrom_88 rfl (by first | rfl | exact nar_bI _ | exact nar_bP) (⟨by unfold avF; first | rw [if_neg h76] | rw [if_pos h76], rfl⟩)
    | succ n ih =>
      intro e m s he h1 h2
      refine j_iload iX6_chanceFrom_21 rfl ?_
      refine j_aload_n iX6_chanceFrom_23 rfl ?_
      refine j_V0R okX6_cells lk_X6_131 iX6_chanceFrom_24 (by omega) (by repeat (first | assumption | refine wset_ne (by decide) ?_ | exact wset_lt (by (try simp only [List.length_set]); exact wsome (by assumption)))) rfl (m_cells hm) rfl (Nat.le_of_ble_eq_true rfl) (Nat.le_of_ble_eq_true rfl) ?_
      refine j_icmp_geN (tgt := 74) iX6_chanceFrom_27 (by decide) (by omega) (by omega) (fun hno => by exfalso; omega) (fun _ => ?_)
      refine j_iload iX6_chanceFrom_30 rfl ?_
      refine j_iload iX6_chanceFrom_32 rfl ?_
      refine j_iload iX6_chanceFrom_34 rfl ?_
      refine j_ishrN iX6_chanceFrom_36 (by omega) (by omega) ?_
      refine j_iconst (v := nI 1) iX6_chanceFrom_37 (by decide) ?_
      refine j_iandBit iX6_chanceFrom_38 ?_
      refine j_iaddN iX6_chanceFrom_39  ?_
      refine j_istore iX6_chanceFrom_40 (by decide) rfl ?_
      dsimp only [List.set]
      refine j_iload iX6_chanceFrom_42 rfl ?_
      refine j_iload iX6_chanceFrom_44 rfl ?_
      refine j_iload iX6_chanceFrom_46 rfl ?_
      refine j_S2R okX6_isIn lk_X6_92 iX6_chanceFrom_48 (by omega) (m_isIn _ e (by omega) (by omega)) rfl (Nat.le_of_ble_eq_true rfl) (Nat.le_of_ble_eq_true rfl) ?_
      refine j_if_eqB (tgt := 64) iX6_chanceFrom_51 (by decide) (fun h51 => ?_) (fun h51 => ?_)
      · refine j_iconst (v := nI 0) iX6_chanceFrom_64 (by decide) ?_
        refine j_iaddN iX6_chanceFrom_65  ?_
        refine j_istore iX6_chanceFrom_66 (by decide) rfl ?_
        dsimp only [List.set]
        refine j_iincN iX6_chanceFrom_68 rfl (by decide) rfl ?_
        dsimp only [List.set]
        refine j_goto (tgt := 21) iX6_chanceFrom_71 (by decide) ?_
        first | exact ih (e + 1) _ _ (by omega) h1 (by rw [← h2]; simp only [fold]; rw [if_neg (nt h51)]) | exact ih (e + 1) _ _ (by omega) h1 (by rw [← h2]; simp only [fold]; rw [if_pos h51])
      · refine j_aload_n iX6_chanceFrom_54 rfl ?_
        refine j_get fk_X6_41 iX6_chanceFrom_55 (by repeat (first | assumption | refine wset_ne (by decide) ?_ | exact wset_lt (by (try simp only [List.length_set]); exact wsome (by assumption)))) (by rfl) ?_
        refine j_iload iX6_chanceFrom_58 rfl ?_
        refine j_ialdN iX6_chanceFrom_60 (by repeat (first | assumption | refine wset_ne (by decide) ?_ | exact wset_lt (by (try simp only [List.length_set]); exact wsome (by assumption)))) (by omega) ?_
        refine j_goto (tgt := 65) iX6_chanceFrom_61 (by decide) ?_
        refine j_iaddN iX6_chanceFrom_65  ?_
        refine j_istore iX6_chanceFrom_66 (by decide) rfl ?_
        dsimp only [List.set]
        refine j_iincN iX6_chanceFrom_68 rfl (by decide) rfl ?_
        dsimp only [List.set]
        refine j_goto (tgt := 21) iX6_chanceFrom_71 (by decide) ?_
        first | exact ih (e + 1) _ _ (by omega) h1 (by rw [← h2]; simp only [fold]; rw [if_neg (nt h51)]) | exact ih (e + 1) _ _ (by omega) h1 (by rw [← h2]; simp only [fold]; rw [if_pos h51])
  refine j_start (ls := [.ref 33, .int (nI k), .int (nI c), .int (nI oth), .null, .null, .null, .null]) rfl ?_
  refine j_aload_n iX6_chanceFrom_0 rfl ?_
  refine j_iload_n iX6_chanceFrom_1 rfl ?_
  refine j_iload_n iX6_chanceFrom_2 rfl ?_
  refine j_V2R okX6_around lk_X6_145 iX6_chanceFrom_3 (by omega) (by repeat (first | assumption | refine wset_ne (by decide) ?_ | exact wset_lt (by (try simp only [List.length_set]); exact wsome (by assumption)))) rfl (m_around hm hN hfr k c hk hc) rfl (Nat.le_of_ble_eq_true rfl) (Nat.le_of_ble_eq_true rfl) ?_
  refine j_iload_n iX6_chanceFrom_6 rfl ?_
  refine j_iconst (v := (-1)) iX6_chanceFrom_7 (by decide) ?_
  refine j_ixor iX6_chanceFrom_8 ?_
  refine j_iandnN iX6_chanceFrom_9 ?_
  refine j_istore iX6_chanceFrom_10 (by decide) rfl ?_
  dsimp only [List.set]
  refine j_iconst (v := nI 0) iX6_chanceFrom_12 (by decide) ?_
  refine j_istore iX6_chanceFrom_13 (by decide) rfl ?_
  dsimp only [List.set]
  refine j_iconst (v := nI 0) iX6_chanceFrom_15 (by decide) ?_
  refine j_istore iX6_chanceFrom_16 (by decide) rfl ?_
  dsimp only [List.set]
  refine j_iconst (v := nI 0) iX6_chanceFrom_18 (by decide) ?_
  refine j_istore iX6_chanceFrom_19 (by decide) rfl ?_
  dsimp only [List.set]
  exact L (R * C) 0 0 0 (by omega) (pop_n hN hout) (sum_n hN hout hg)
/-- the chances that the reference tells, cell by cell below N -/
def cbF (C N fr k oth t : Nat) : Nat → Nat → Nat
  | 0 => fun c => if c = t then 1000000 else 0
  | n + 1 => fun c => if pop (mayF C N fr k oth c) = 0 then (if c = t then 1000000 else 0) else sumSet (cbF C N fr k oth t n) (mayF C N fr k oth c) / pop (mayF C N fr k oth c)
theorem cb_le (C N fr k oth t : Nat) : ∀ n c, cbF C N fr k oth t n c ≤ 1000000 := by
  intro n
  induction n with
  | zero => intro c; simp only [cbF]; split <;> omega
  | succ n ih =>
    intro c
    simp only [cbF]
    split
    · split <;> omega
    · exact avg_le ih (by omega)
theorem m_chanceNow {ch nx : Nat → Nat} (hm : w[33]? = some (oM bd R C fr lp lps sn sz wh nc nf nl tl sd ik kb kf kl kn hh)) (h34 : w[34]? = some (nA 4 ks)) (h35 : w[35]? = some (nA 4 sts)) (h44 : w[44]? = some (nA 12 ch)) (h45 : w[45]? = some (nA 12 nx)) (hN : R * C ≤ 12) (hfr : fr < 4096) (hlp : lp ≤ 4) (hks : ∀ i, ks i < 5) (hst : ∀ i, sts i < 12) (j t m : Nat) (hj : j < 4) (hs : sts j < R * C) (ht : t < R * C) (hm6 : m ≤ 6) : JX 4 mX6_chanceNow [.ref 33, .int (nI j), .int (nI t), .int (nI m)] w (fun v u => v = some (.int (nI (cbF C (R * C) fr (ks j) (othF lp sts j) t m (sts j)))) ∧ ∃ x y, u = (w.set 45 (nA 12 x)).set 44 (nA 12 y)) := by
  have hkj := hks j
  -- one copy back
  have LC : ∀ (i : Nat) (x y : Nat → Nat) (Q : Option Value → mW → Prop), (∀ c, c < R * C → x c = cbF C (R * C) fr (ks j) (othF lp sts j) t (i + 1) c) →
      (∀ y', (∀ c, c < R * C → y' c = cbF C (R * C) fr (ks j) (othF lp sts j) t (i + 1) c) → J 4 mX6_chanceNow 40 [.ref 33, .int (nI j), .int (nI t), .int (nI m), .int (nI (i + 1)), .null, .null] [] ((w.set 45 (nA 12 x)).set 44 (nA 12 y')) Q) →
      ∀ (n c : Nat) (y : Nat → Nat), c + n = R * C → (∀ b, b < c → y b = cbF C (R * C) fr (ks j) (othF lp sts j) t (i + 1) b) → J 4 mX6_chanceNow 116 [.ref 33, .int (nI j), .int (nI t), .int (nI m), .int (nI i), .int (nI c), .null] [] ((w.set 45 (nA 12 x)).set 44 (nA 12 y)) Q := by
    intro i x y Q hx kk n
    induction n with
    | zero =>
      intro c y hc hy
      refine j_iload iX6_chanceNow_116 rfl ?_
      refine j_aload_n iX6_chanceNow_118 rfl ?_
      refine j_V0R okX6_cells lk_X6_131 iX6_chanceNow_119 (by omega) (by repeat (first | assumption | refine wset_ne (by decide) ?_ | exact wset_lt (by (try simp only [List.length_set]); exact wsome (by assumption)))) rfl (m_cells ((by repeat (first | assumption | refine wset_ne (by decide) ?_ | exact wset_lt (by (try simp only [List.length_set]); exact wsome (by assumption)))) : _ = some (oM bd R C fr lp lps sn sz wh nc nf nl tl sd ik kb kf kl kn hh))) rfl (Nat.le_of_ble_eq_true rfl) (Nat.le_of_ble_eq_true rfl) ?_
      refine j_icmp_geN (tgt := 145) iX6_chanceNow_122 (by decide) (by omega) (by omega) (fun _ => ?_) (fun hno => by exfalso; omega)
      refine j_iincN iX6_chanceNow_145 rfl (by decide) rfl ?_
      dsimp only [List.set]
      refine j_goto (tgt := 40) iX6_chanceNow_148 (by decide) ?_
      exact J.fg (kk y (fun b hb => hy b (by omega))) (by first | (simp [LF]; done) | (simp [LF, bI]; done))
    | succ n ih =>
      intro c y hc hy
      refine j_iload iX6_chanceNow_116 rfl ?_
      refine j_aload_n iX6_chanceNow_118 rfl ?_
      refine j_V0R okX6_cells lk_X6_131 iX6_chanceNow_119 (by omega) (by repeat (first | assumption | refine wset_ne (by decide) ?_ | exact wset_lt (by (try simp only [List.length_set]); exact wsome (by assumption)))) rfl (m_cells ((by repeat (first | assumption | refine wset_ne (by decide) ?_ | exact wset_lt (by (try simp only [List.length_set]); exact wsome (by assumption)))) : _ = some (oM bd R C fr lp lps sn sz wh nc nf nl tl sd ik kb kf kl kn hh))) rfl (Nat.le_of_ble_eq_true rfl) (Nat.le_of_ble_eq_true rfl) ?_
      refine j_icmp_geN (tgt := 145) iX6_chanceNow_122 (by decide) (by omega) (by omega) (fun hno => by exfalso; omega) (fun _ => ?_)
      refine j_aload_n iX6_chanceNow_125 rfl ?_
      refine j_get fk_X6_41 iX6_chanceNow_126 (by repeat (first | assumption | refine wset_ne (by decide) ?_ | exact wset_lt (by (try simp only [List.length_set]); exact wsome (by assumption)))) (by rfl) ?_
      refine j_iload iX6_chanceNow_129 rfl ?_
      refine j_aload_n iX6_chanceNow_131 rfl ?_
      refine j_get fk_X6_44 iX6_chanceNow_132 (by repeat (first | assumption | refine wset_ne (by decide) ?_ | exact wset_lt (by (try simp only [List.length_set]); exact wsome (by assumption)))) (by rfl) ?_
      refine j_iload iX6_chanceNow_135 rfl ?_
      refine j_ialdN iX6_chanceNow_137 (by repeat (first | assumption | refine wset_ne (by decide) ?_ | exact wset_lt (by (try simp only [List.length_set]); exact wsome (by assumption)))) (by omega) ?_
      refine j_iastN iX6_chanceNow_138 (by repeat (first | assumption | refine wset_ne (by decide) ?_ | exact wset_lt (by (try simp only [List.length_set]); exact wsome (by assumption)))) (by omega) ?_
      refine j_iincN iX6_chanceNow_139 rfl (by decide) rfl ?_
      dsimp only [List.set]
      refine j_goto (tgt := 116) iX6_chanceNow_142 (by decide) ?_
      rw [wset2]; exact ih (c + 1) _ (by omega) (un_upto hy (hx c (by omega)))
  -- one step
  have LS : ∀ (i : Nat) (y : Nat → Nat) (Q : Option Value → mW → Prop), (∀ c, c < R * C → y c = cbF C (R * C) fr (ks j) (othF lp sts j) t i c) →
      (∀ x y', (∀ c, c < R * C → y' c = cbF C (R * C) fr (ks j) (othF lp sts j) t (i + 1) c) → J 4 mX6_chanceNow 40 [.ref 33, .int (nI j), .int (nI t), .int (nI m), .int (nI (i + 1)), .null, .null] [] ((w.set 45 (nA 12 x)).set 44 (nA 12 y')) Q) →
      ∀ (n c : Nat) (x : Nat → Nat), c + n = R * C → (∀ b, b < c → x b = cbF C (R * C) fr (ks j) (othF lp sts j) t (i + 1) b) → J 4 mX6_chanceNow 49 [.ref 33, .int (nI j), .int (nI t), .int (nI m), .int (nI i), .int (nI c), .null] [] ((w.set 45 (nA 12 x)).set 44 (nA 12 y)) Q := by
    intro i y Q hy kk n
    induction n with
    | zero =>
      intro c x hc hx
      have hL := LC i x y Q (fun b hb => hx b (by omega)) (fun y' hy' => kk x y' hy') (R * C) 0 y (by omega) (fun b hb => absurd hb (Nat.not_lt_zero _))
      refine j_iload iX6_chanceNow_49 rfl ?_
      refine j_aload_n iX6_chanceNow_51 rfl ?_
      refine j_V0R okX6_cells lk_X6_131 iX6_chanceNow_52 (by omega) (by repeat (first | assumption | refine wset_ne (by decide) ?_ | exact wset_lt (by (try simp only [List.length_set]); exact wsome (by assumption)))) rfl (m_cells ((by repeat (first | assumption | refine wset_ne (by decide) ?_ | exact wset_lt (by (try simp only [List.length_set]); exact wsome (by assumption)))) : _ = some (oM bd R C fr lp lps sn sz wh nc nf nl tl sd ik kb kf kl kn hh))) rfl (Nat.le_of_ble_eq_true rfl) (Nat.le_of_ble_eq_true rfl) ?_
      refine j_icmp_geN (tgt := 113) iX6_chanceNow_55 (by decide) (by omega) (by omega) (fun _ => ?_) (fun hno => by exfalso; omega)
      refine j_iconst (v := nI 0) iX6_chanceNow_113 (by decide) ?_
      refine j_istore iX6_chanceNow_114 (by decide) rfl ?_
      dsimp only [List.set]
      exact J.fg hL (by first | (simp [LF]; done) | (simp [LF, bI]; done))
    | succ n ih =>
      intro c x hc hx
      have hcN : c < R * C := by omega
      by_cases hp : pop (mayF C (R * C) fr (ks j) (othF lp sts j) c) = 0
      · have ev : avF (cbF C (R * C) fr (ks j) (othF lp sts j) t i) (mayF C (R * C) fr (ks j) (othF lp sts j) c) = -1 := if_pos hp
        have ec : cbF C (R * C) fr (ks j) (othF lp sts j) t (i + 1) c = if c = t then 1000000 else 0 := by simp only [cbF]; rw [if_pos hp]
        refine j_iload iX6_chanceNow_49 rfl ?_
        refine j_aload_n iX6_chanceNow_51 rfl ?_
        refine j_V0R okX6_cells lk_X6_131 iX6_chanceNow_52 (by omega) (by repeat (first | assumption | refine wset_ne (by decide) ?_ | exact wset_lt (by (try simp only [List.length_set]); exact wsome (by assumption)))) rfl (m_cells ((by repeat (first | assumption | refine wset_ne (by decide) ?_ | exact wset_lt (by (try simp only [List.length_set]); exact wsome (by assumption)))) : _ = some (oM bd R C fr lp lps sn sz wh nc nf nl tl sd ik kb kf kl kn hh))) rfl (Nat.le_of_ble_eq_true rfl) (Nat.le_of_ble_eq_true rfl) ?_
        refine j_icmp_geN (tgt := 113) iX6_chanceNow_55 (by decide) (by omega) (by omega) (fun hno => by exfalso; omega) (fun _ => ?_)
        refine j_aload_n iX6_chanceNow_58 rfl ?_
        refine j_aload_n iX6_chanceNow_59 rfl ?_
        refine j_get fk_X6_7 iX6_chanceNow_60 (by repeat (first | assumption | refine wset_ne (by decide) ?_ | exact wset_lt (by (try simp only [List.length_set]); exact wsome (by assumption)))) (by rfl) ?_
        refine j_iload_n iX6_chanceNow_63 rfl ?_
        refine j_ialdN iX6_chanceNow_64 (by repeat (first | assumption | refine wset_ne (by decide) ?_ | exact wset_lt (by (try simp only [List.length_set]); exact wsome (by assumption)))) (by omega) ?_
        refine j_iload iX6_chanceNow_65 rfl ?_
        refine j_aload_n iX6_chanceNow_67 rfl ?_
        refine j_iload_n iX6_chanceNow_68 rfl ?_
        refine j_V1R okX6_others lk_X6_191 iX6_chanceNow_69 (by omega) (by repeat (first | assumption | refine wset_ne (by decide) ?_ | exact wset_lt (by (try simp only [List.length_set]); exact wsome (by assumption)))) rfl (m_others ((by repeat (first | assumption | refine wset_ne (by decide) ?_ | exact wset_lt (by (try simp only [List.length_set]); exact wsome (by assumption)))) : _ = some (oM bd R C fr lp lps sn sz wh nc nf nl tl sd ik kb kf kl kn hh)) (by repeat (first | assumption | refine wset_ne (by decide) ?_ | exact wset_lt (by (try simp only [List.length_set]); exact wsome (by assumption)))) hlp hst j hj) rfl (Nat.le_of_ble_eq_true rfl) (Nat.le_of_ble_eq_true rfl) ?_
        refine j_V3R okX6_chanceFrom lk_X6_250 iX6_chanceNow_72 (by omega) (by repeat (first | assumption | refine wset_ne (by decide) ?_ | exact wset_lt (by (try simp only [List.length_set]); exact wsome (by assumption)))) rfl (m_chanceFrom ((by repeat (first | assumption | refine wset_ne (by decide) ?_ | exact wset_lt (by (try simp only [List.length_set]); exact wsome (by assumption)))) : _ = some (oM bd R C fr lp lps sn sz wh nc nf nl tl sd ik kb kf kl kn hh)) (by repeat (first | assumption | refine wset_ne (by decide) ?_ | exact wset_lt (by (try simp only [List.length_set]); exact wsome (by assumption)))) hN hfr hy (cb_le _ _ _ _ _ _ i) (ks j) c _ hkj hcN) rfl (Nat.le_of_ble_eq_true rfl) (Nat.le_of_ble_eq_true rfl) ?_
        rw [ev]
        refine j_istore iX6_chanceNow_75 (by decide) rfl ?_
        dsimp only [List.set]
        refine j_aload_n iX6_chanceNow_77 rfl ?_
        refine j_get fk_X6_44 iX6_chanceNow_78 (by repeat (first | assumption | refine wset_ne (by decide) ?_ | exact wset_lt (by (try simp only [List.length_set]); exact wsome (by assumption)))) (by rfl) ?_
        refine j_iload iX6_chanceNow_81 rfl ?_
        refine j_iload iX6_chanceNow_83 rfl ?_
        refine j_iconst (v := (-1)) iX6_chanceNow_85 (by decide) ?_
        refine j_icmp_eq (tgt := 94) iX6_chanceNow_86 (by decide) (fun _ => ?_) (fun hno => by first | exact absurd hno (rfl) | exact absurd (rfl) hno)
        refine j_iload iX6_chanceNow_94 rfl ?_
        refine j_iload_n iX6_chanceNow_96 rfl ?_
        refine j_icmp_neN (tgt := 105) iX6_chanceNow_97 (by decide) (by omega) (by omega) (fun h97 => ?_) (fun h97 => ?_)
        · refine j_iconst (v := nI 0) iX6_chanceNow_105 (by decide) ?_
          refine j_top (y := nI (cbF C (R * C) fr (ks j) (othF lp sts j) t (i + 1) c)) (by rw [ec]; first | (rw [if_pos h97]; decide) | (rw [if_neg h97])) ?_
          refine j_iastN iX6_chanceNow_106 (by repeat (first | assumption | refine wset_ne (by decide) ?_ | exact wset_lt (by (try simp only [List.length_set]); exact wsome (by assumption)))) (by omega) ?_
          refine j_iincN iX6_chanceNow_107 rfl (by decide) rfl ?_
          dsimp only [List.set]
          refine j_goto (tgt := 49) iX6_chanceNow_110 (by decide) ?_
          rw [List.set_comm _ _ (show (44 : Nat) ≠ 45 by decide), wset2]; exact J.fg (ih (c + 1) _ (by omega) (un_upto hx rfl)) (by first | (simp [LF]; done) | (simp [LF, bI]; done))
        · refine j_ldc iX6_chanceNow_100 kc_X6_249 ?_
          refine j_goto (tgt := 106) iX6_chanceNow_102 (by decide) ?_
          refine j_top (y := nI (cbF C (R * C) fr (ks j) (othF lp sts j) t (i + 1) c)) (by rw [ec]; first | (rw [if_pos h97]; decide) | (rw [if_neg h97])) ?_
          refine j_iastN iX6_chanceNow_106 (by repeat (first | assumption | refine wset_ne (by decide) ?_ | exact wset_lt (by (try simp only [List.length_set]); exact wsome (by assumption)))) (by omega) ?_
          refine j_iincN iX6_chanceNow_107 rfl (by decide) rfl ?_
          dsimp only [List.set]
          refine j_goto (tgt := 49) iX6_chanceNow_110 (by decide) ?_
          rw [List.set_comm _ _ (show (44 : Nat) ≠ 45 by decide), wset2]; exact J.fg (ih (c + 1) _ (by omega) (un_upto hx rfl)) (by first | (simp [LF]; done) | (simp [LF, bI]; done))
      · have hle := avg_le (cb_le C (R * C) fr (ks j) (othF lp sts j) t i) (Nat.pos_of_ne_zero hp)
        have ev : avF (cbF C (R * C) fr (ks j) (othF lp sts j) t i) (mayF C (R * C) fr (ks j) (othF lp sts j) c) = nI (cbF C (R * C) fr (ks j) (othF lp sts j) t (i + 1) c) := by unfold avF; rw [if_neg hp]; simp only [cbF]; rw [if_neg hp]
        have hle2 := cb_le C (R * C) fr (ks j) (othF lp sts j) t (i + 1) c
        have hne : nI (cbF C (R * C) fr (ks j) (othF lp sts j) t (i + 1) c) ≠ -1 := fun z => by
          have := congrArg Int32.toInt z
          rw [nI_toInt (by omega)] at this
          have e : (-1 : Int32).toInt = -1 := by decide
          rw [e] at this
          omega
        refine j_iload iX6_chanceNow_49 rfl ?_
        refine j_aload_n iX6_chanceNow_51 rfl ?_
        refine j_V0R okX6_cells lk_X6_131 iX6_chanceNow_52 (by omega) (by repeat (first | assumption | refine wset_ne (by decide) ?_ | exact wset_lt (by (try simp only [List.length_set]); exact wsome (by assumption)))) rfl (m_cells ((by repeat (first | assumption | refine wset_ne (by decide) ?_ | exact wset_lt (by (try simp only [List.length_set]); exact wsome (by assumption)))) : _ = some (oM bd R C fr lp lps sn sz wh nc nf nl tl sd ik kb kf kl kn hh))) rfl (Nat.le_of_ble_eq_true rfl) (Nat.le_of_ble_eq_true rfl) ?_
        refine j_icmp_geN (tgt := 113) iX6_chanceNow_55 (by decide) (by omega) (by omega) (fun hno => by exfalso; omega) (fun _ => ?_)
        refine j_aload_n iX6_chanceNow_58 rfl ?_
        refine j_aload_n iX6_chanceNow_59 rfl ?_
        refine j_get fk_X6_7 iX6_chanceNow_60 (by repeat (first | assumption | refine wset_ne (by decide) ?_ | exact wset_lt (by (try simp only [List.length_set]); exact wsome (by assumption)))) (by rfl) ?_
        refine j_iload_n iX6_chanceNow_63 rfl ?_
        refine j_ialdN iX6_chanceNow_64 (by repeat (first | assumption | refine wset_ne (by decide) ?_ | exact wset_lt (by (try simp only [List.length_set]); exact wsome (by assumption)))) (by omega) ?_
        refine j_iload iX6_chanceNow_65 rfl ?_
        refine j_aload_n iX6_chanceNow_67 rfl ?_
        refine j_iload_n iX6_chanceNow_68 rfl ?_
        refine j_V1R okX6_others lk_X6_191 iX6_chanceNow_69 (by omega) (by repeat (first | assumption | refine wset_ne (by decide) ?_ | exact wset_lt (by (try simp only [List.length_set]); exact wsome (by assumption)))) rfl (m_others ((by repeat (first | assumption | refine wset_ne (by decide) ?_ | exact wset_lt (by (try simp only [List.length_set]); exact wsome (by assumption)))) : _ = some (oM bd R C fr lp lps sn sz wh nc nf nl tl sd ik kb kf kl kn hh)) (by repeat (first | assumption | refine wset_ne (by decide) ?_ | exact wset_lt (by (try simp only [List.length_set]); exact wsome (by assumption)))) hlp hst j hj) rfl (Nat.le_of_ble_eq_true rfl) (Nat.le_of_ble_eq_true rfl) ?_
        refine j_V3R okX6_chanceFrom lk_X6_250 iX6_chanceNow_72 (by omega) (by repeat (first | assumption | refine wset_ne (by decide) ?_ | exact wset_lt (by (try simp only [List.length_set]); exact wsome (by assumption)))) rfl (m_chanceFrom ((by repeat (first | assumption | refine wset_ne (by decide) ?_ | exact wset_lt (by (try simp only [List.length_set]); exact wsome (by assumption)))) : _ = some (oM bd R C fr lp lps sn sz wh nc nf nl tl sd ik kb kf kl kn hh)) (by repeat (first | assumption | refine wset_ne (by decide) ?_ | exact wset_lt (by (try simp only [List.length_set]); exact wsome (by assumption)))) hN hfr hy (cb_le _ _ _ _ _ _ i) (ks j) c _ hkj hcN) rfl (Nat.le_of_ble_eq_true rfl) (Nat.le_of_ble_eq_true rfl) ?_
        rw [ev]
        refine j_istore iX6_chanceNow_75 (by decide) rfl ?_
        dsimp only [List.set]
        refine j_aload_n iX6_chanceNow_77 rfl ?_
        refine j_get fk_X6_44 iX6_chanceNow_78 (by repeat (first | assumption | refine wset_ne (by decide) ?_ | exact wset_lt (by (try simp only [List.length_set]); exact wsome (by assumption)))) (by rfl) ?_
        refine j_iload iX6_chanceNow_81 rfl ?_
        refine j_iload iX6_chanceNow_83 rfl ?_
        refine j_iconst (v := (-1)) iX6_chanceNow_85 (by decide) ?_
        refine j_icmp_eq (tgt := 94) iX6_chanceNow_86 (by decide) (fun hno => by first | exact absurd hno (hne) | exact absurd (hne) hno) (fun _ => ?_)
        refine j_iload iX6_chanceNow_89 rfl ?_
        refine j_goto (tgt := 106) iX6_chanceNow_91 (by decide) ?_
        refine j_iastN iX6_chanceNow_106 (by repeat (first | assumption | refine wset_ne (by decide) ?_ | exact wset_lt (by (try simp only [List.length_set]); exact wsome (by assumption)))) (by omega) ?_
        refine j_iincN iX6_chanceNow_107 rfl (by decide) rfl ?_
        dsimp only [List.set]
        refine j_goto (tgt := 49) iX6_chanceNow_110 (by decide) ?_
        rw [List.set_comm _ _ (show (44 : Nat) ≠ 45 by decide), wset2]; exact J.fg (ih (c + 1) _ (by omega) (un_upto hx rfl)) (by first | (simp [LF]; done) | (simp [LF, bI]; done))
  -- all steps
  have LM : ∀ (n i : Nat) (x y : Nat → Nat), i + n = m → (∀ c, c < R * C → y c = cbF C (R * C) fr (ks j) (othF lp sts j) t i c) → J 4 mX6_chanceNow 40 [.ref 33, .int (nI j), .int (nI t), .int (nI m), .int (nI i), .null, .null] [] ((w.set 45 (nA 12 x)).set 44 (nA 12 y)) (fun v u => v = some (.int (nI (cbF C (R * C) fr (ks j) (othF lp sts j) t m (sts j)))) ∧ ∃ x y, u = (w.set 45 (nA 12 x)).set 44 (nA 12 y)) := by
    intro n
    induction n with
    | zero =>
      intro i x y hi hy
      have e : i = m := by omega
      subst e
      refine j_iload iX6_chanceNow_40 rfl ?_
      refine j_iload_n iX6_chanceNow_42 rfl ?_
      refine j_icmp_geN (tgt := 151) iX6_chanceNow_43 (by decide) (by omega) (by omega) (fun _ => ?_) (fun hno => by exfalso; omega)
      refine j_aload_n iX6_chanceNow_151 rfl ?_
      refine j_get fk_X6_41 iX6_chanceNow_152 (by repeat (first | assumption | refine wset_ne (by decide) ?_ | exact wset_lt (by (try simp only [List.length_set]); exact wsome (by assumption)))) (by rfl) ?_
      refine j_aload_n iX6_chanceNow_155 rfl ?_
      refine j_get fk_X6_13 iX6_chanceNow_156 (by repeat (first | assumption | refine wset_ne (by decide) ?_ | exact wset_lt (by (try simp only [List.length_set]); exact wsome (by assumption)))) (by rfl) ?_
      refine j_iload_n iX6_chanceNow_159 rfl ?_
      refine j_ialdN iX6_chanceNow_160 (by repeat (first | assumption | refine wset_ne (by decide) ?_ | exact wset_lt (by (try simp only [List.length_set]); exact wsome (by assumption)))) (by omega) ?_
      refine j_ialdN iX6_chanceNow_161 (by repeat (first | assumption | refine wset_ne (by decide) ?_ | exact wset_lt (by (try simp only [List.length_set]); exact wsome (by assumption)))) (by omega) ?_
      refine j_iret iX6_chanceNow_162 rfl (by first | rfl | exact nar_bI _ | exact nar_bP) (⟨by rw [hy _ hs], x, y, rfl⟩)
    | succ n ih =>
      intro i x y hi hy
      have hL := LS i y _ hy (fun x' y' hy' => ih (i + 1) x' y' (by omega) hy') (R * C) 0 x (by omega) (fun b hb => absurd hb (Nat.not_lt_zero _))
      refine j_iload iX6_chanceNow_40 rfl ?_
      refine j_iload_n iX6_chanceNow_42 rfl ?_
      refine j_icmp_geN (tgt := 151) iX6_chanceNow_43 (by decide) (by omega) (by omega) (fun hno => by exfalso; omega) (fun _ => ?_)
      refine j_iconst (v := nI 0) iX6_chanceNow_46 (by decide) ?_
      refine j_istore iX6_chanceNow_47 (by decide) rfl ?_
      dsimp only [List.set]
      exact J.fg hL (by first | (simp [LF]; done) | (simp [LF, bI]; done))
  have L0 : ∀ (n c : Nat) (y : Nat → Nat), c + n = R * C → (∀ b, b < c → y b = cbF C (R * C) fr (ks j) (othF lp sts j) t 0 b) → J 4 mX6_chanceNow 3 [.ref 33, .int (nI j), .int (nI t), .int (nI m), .int (nI c), .null, .null] [] (w.set 44 (nA 12 y)) (fun v u => v = some (.int (nI (cbF C (R * C) fr (ks j) (othF lp sts j) t m (sts j)))) ∧ ∃ x y, u = (w.set 45 (nA 12 x)).set 44 (nA 12 y)) := by
    intro n
    induction n with
    | zero =>
      intro c y hc hy
      have hL := LM m 0 nx y (by omega) (fun b hb => hy b (by omega))
      rw [wset_eq h45] at hL
      refine j_iload iX6_chanceNow_3 rfl ?_
      refine j_aload_n iX6_chanceNow_5 rfl ?_
      refine j_V0R okX6_cells lk_X6_131 iX6_chanceNow_6 (by omega) (by repeat (first | assumption | refine wset_ne (by decide) ?_ | exact wset_lt (by (try simp only [List.length_set]); exact wsome (by assumption)))) rfl (m_cells ((by repeat (first | assumption | refine wset_ne (by decide) ?_ | exact wset_lt (by (try simp only [List.length_set]); exact wsome (by assumption)))) : _ = some (oM bd R C fr lp lps sn sz wh nc nf nl tl sd ik kb kf kl kn hh))) rfl (Nat.le_of_ble_eq_true rfl) (Nat.le_of_ble_eq_true rfl) ?_
      refine j_icmp_geN (tgt := 37) iX6_chanceNow_9 (by decide) (by omega) (by omega) (fun _ => ?_) (fun hno => by exfalso; omega)
      refine j_iconst (v := nI 0) iX6_chanceNow_37 (by decide) ?_
      refine j_istore iX6_chanceNow_38 (by decide) rfl ?_
      dsimp only [List.set]
      exact hL
    | succ n ih =>
      intro c y hc hy
      refine j_iload iX6_chanceNow_3 rfl ?_
      refine j_aload_n iX6_chanceNow_5 rfl ?_
      refine j_V0R okX6_cells lk_X6_131 iX6_chanceNow_6 (by omega) (by repeat (first | assumption | refine wset_ne (by decide) ?_ | exact wset_lt (by (try simp only [List.length_set]); exact wsome (by assumption)))) rfl (m_cells ((by repeat (first | assumption | refine wset_ne (by decide) ?_ | exact wset_lt (by (try simp only [List.length_set]); exact wsome (by assumption)))) : _ = some (oM bd R C fr lp lps sn sz wh nc nf nl tl sd ik kb kf kl kn hh))) rfl (Nat.le_of_ble_eq_true rfl) (Nat.le_of_ble_eq_true rfl) ?_
      refine j_icmp_geN (tgt := 37) iX6_chanceNow_9 (by decide) (by omega) (by omega) (fun hno => by exfalso; omega) (fun _ => ?_)
      refine j_aload_n iX6_chanceNow_12 rfl ?_
      refine j_get fk_X6_41 iX6_chanceNow_13 (by repeat (first | assumption | refine wset_ne (by decide) ?_ | exact wset_lt (by (try simp only [List.length_set]); exact wsome (by assumption)))) (by rfl) ?_
      refine j_iload iX6_chanceNow_16 rfl ?_
      refine j_iload iX6_chanceNow_18 rfl ?_
      refine j_iload_n iX6_chanceNow_20 rfl ?_
      refine j_icmp_neN (tgt := 29) iX6_chanceNow_21 (by decide) (by omega) (by omega) (fun h21 => ?_) (fun h21 => ?_)
      · refine j_iconst (v := nI 0) iX6_chanceNow_29 (by decide) ?_
        refine j_top (y := nI (cbF C (R * C) fr (ks j) (othF lp sts j) t 0 c)) (by simp only [cbF]; first | (rw [if_pos h21]; decide) | (rw [if_neg h21])) ?_
        refine j_iastN iX6_chanceNow_30 (by repeat (first | assumption | refine wset_ne (by decide) ?_ | exact wset_lt (by (try simp only [List.length_set]); exact wsome (by assumption)))) (by omega) ?_
        refine j_iincN iX6_chanceNow_31 rfl (by decide) rfl ?_
        dsimp only [List.set]
        refine j_goto (tgt := 3) iX6_chanceNow_34 (by decide) ?_
        rw [wset2]; exact ih (c + 1) _ (by omega) (un_upto hy rfl)
      · refine j_ldc iX6_chanceNow_24 kc_X6_249 ?_
        refine j_goto (tgt := 30) iX6_chanceNow_26 (by decide) ?_
        refine j_top (y := nI (cbF C (R * C) fr (ks j) (othF lp sts j) t 0 c)) (by simp only [cbF]; first | (rw [if_pos h21]; decide) | (rw [if_neg h21])) ?_
        refine j_iastN iX6_chanceNow_30 (by repeat (first | assumption | refine wset_ne (by decide) ?_ | exact wset_lt (by (try simp only [List.length_set]); exact wsome (by assumption)))) (by omega) ?_
        refine j_iincN iX6_chanceNow_31 rfl (by decide) rfl ?_
        dsimp only [List.set]
        refine j_goto (tgt := 3) iX6_chanceNow_34 (by decide) ?_
        rw [wset2]; exact ih (c + 1) _ (by omega) (un_upto hy rfl)
  refine j_start (ls := [.ref 33, .int (nI j), .int (nI t), .int (nI m), .null, .null, .null]) rfl ?_
  refine j_iconst (v := nI 0) iX6_chanceNow_0 (by decide) ?_
  refine j_istore iX6_chanceNow_1 (by decide) rfl ?_
  dsimp only [List.set]
  exact (by have hL := L0 (R * C) 0 ch (by omega) (fun b hb => absurd hb (Nat.not_lt_zero _)); rw [wset_eq h44] at hL; exact hL)
theorem m_chance_u (hm : w[33]? = some (oM bd R C fr lp lps sn sz wh nc nf nl tl sd ik kb kf kl kn hh)) (hN : R * C ≤ 12) (hlp : lp ≤ 4) (x y z : Int32) (hx : inR x lp = false ∨ inR y (R * C) = false) : JR 5 mX6_chance [.ref 33, .int x, .int y, .int z] w (.int (-101)) w := by
  refine j_start (ls := [.ref 33, .int x, .int y, .int z]) rfl ?_
  refine j_aload_n iX6_chance_0 rfl ?_
  refine j_iload_n iX6_chance_1 rfl ?_
  refine j_V1R okX6_isLeaper lk_X6_166 iX6_chance_2 (by omega) (by repeat (first | assumption | refine wset_ne (by decide) ?_ | exact wset_lt (by (try simp only [List.length_set]); exact wsome (by assumption)))) rfl (m_isLeaper hm hlp x) rfl (Nat.le_of_ble_eq_true rfl) (Nat.le_of_ble_eq_true rfl) ?_
  refine j_if_eqB (tgt := 16) iX6_chance_5 (by decide) (fun h5 => ?_) (fun h5 => ?_)
  · refine j_bipush (v := (-101)) iX6_chance_16 (by decide) ?_
    refine j_iret iX6_chance_18 rfl (by first | rfl | exact nar_bI _ | exact nar_bP) (⟨rfl, rfl⟩)
  · refine j_aload_n iX6_chance_8 rfl ?_
    refine j_iload_n iX6_chance_9 rfl ?_
    refine j_V1R okX6_isCell lk_X6_179 iX6_chance_10 (by omega) (by repeat (first | assumption | refine wset_ne (by decide) ?_ | exact wset_lt (by (try simp only [List.length_set]); exact wsome (by assumption)))) rfl (m_isCell hm hN y) rfl (Nat.le_of_ble_eq_true rfl) (Nat.le_of_ble_eq_true rfl) ?_
    refine j_if_neB (tgt := 19) iX6_chance_13 (by decide) (fun hno => Bool.noConfusion (hno.symm.trans (show _ = false from by rcases hx with q | q; (rw [h5] at q; cases q); exact q))) (fun _ => ?_)
    refine j_bipush (v := (-101)) iX6_chance_16 (by decide) ?_
    refine j_iret iX6_chance_18 rfl (by first | rfl | exact nar_bI _ | exact nar_bP) (⟨rfl, rfl⟩)
theorem m_chance_o (hm : w[33]? = some (oM bd R C fr lp lps sn sz wh nc nf nl tl sd ik kb kf kl kn hh)) (hN : R * C ≤ 12) (hlp : lp ≤ 4) (x y z : Int32) (hx : inR x lp = true) (hy : inR y (R * C) = true) (hz : inR z 7 = false) : JR 5 mX6_chance [.ref 33, .int x, .int y, .int z] w (.int (-102)) w := by
  refine j_start (ls := [.ref 33, .int x, .int y, .int z]) rfl ?_
  refine j_aload_n iX6_chance_0 rfl ?_
  refine j_iload_n iX6_chance_1 rfl ?_
  refine j_V1R okX6_isLeaper lk_X6_166 iX6_chance_2 (by omega) (by repeat (first | assumption | refine wset_ne (by decide) ?_ | exact wset_lt (by (try simp only [List.length_set]); exact wsome (by assumption)))) rfl (m_isLeaper hm hlp x) rfl (Nat.le_of_ble_eq_true rfl) (Nat.le_of_ble_eq_true rfl) ?_
  refine j_if_eqB (tgt := 16) iX6_chance_5 (by decide) (fun hno => Bool.noConfusion (hno.symm.trans (show _ = true from hx))) (fun _ => ?_)
  refine j_aload_n iX6_chance_8 rfl ?_
  refine j_iload_n iX6_chance_9 rfl ?_
  refine j_V1R okX6_isCell lk_X6_179 iX6_chance_10 (by omega) (by repeat (first | assumption | refine wset_ne (by decide) ?_ | exact wset_lt (by (try simp only [List.length_set]); exact wsome (by assumption)))) rfl (m_isCell hm hN y) rfl (Nat.le_of_ble_eq_true rfl) (Nat.le_of_ble_eq_true rfl) ?_
  refine j_if_neB (tgt := 19) iX6_chance_13 (by decide) (fun _ => ?_) (fun hno => Bool.noConfusion (hno.symm.trans (show _ = true from hy)))
  refine j_iload_n iX6_chance_19 rfl ?_
  refine j_iconst (v := nI 0) iX6_chance_20 (by decide) ?_
  refine j_bipush (v := nI 6) iX6_chance_21 (by decide) ?_
  refine j_S3R okX6_within lk_X6_68 iX6_chance_23 (by omega) (m_within _ _ _) rfl (Nat.le_of_ble_eq_true rfl) (Nat.le_of_ble_eq_true rfl) ?_
  refine j_if_eqB (tgt := 39) iX6_chance_26 (by decide) (fun _ => ?_) (fun hno => Bool.noConfusion (hno.symm.trans (show _ = false from by rw [wi_R (by decide)]; exact hz)))
  refine j_bipush (v := (-102)) iX6_chance_39 (by decide) ?_
  refine j_iret iX6_chance_41 rfl (by first | rfl | exact nar_bI _ | exact nar_bP) (⟨rfl, rfl⟩)
theorem m_chance {ch nx : Nat → Nat} (hm : w[33]? = some (oM bd R C fr lp lps sn sz wh nc nf nl tl sd ik kb kf kl kn hh)) (h34 : w[34]? = some (nA 4 ks)) (h35 : w[35]? = some (nA 4 sts)) (h44 : w[44]? = some (nA 12 ch)) (h45 : w[45]? = some (nA 12 nx)) (hN : R * C ≤ 12) (hfr : fr < 4096) (hlp : lp ≤ 4) (hks : ∀ i, ks i < 5) (hst : ∀ i, sts i < 12) (hsN : ∀ i, i < lp → sts i < R * C) (j t m : Nat) (hj : j < lp) (ht : t < R * C) (hm7 : m < 7) : JX 5 mX6_chance [.ref 33, .int (nI j), .int (nI t), .int (nI m)] w (fun v u => v = some (.int (nI (cbF C (R * C) fr (ks j) (othF lp sts j) t m (sts j)))) ∧ ∃ x y, u = (w.set 45 (nA 12 x)).set 44 (nA 12 y)) := by
  refine j_start (ls := [.ref 33, .int (nI j), .int (nI t), .int (nI m)]) rfl ?_
  refine j_aload_n iX6_chance_0 rfl ?_
  refine j_iload_n iX6_chance_1 rfl ?_
  refine j_V1R okX6_isLeaper lk_X6_166 iX6_chance_2 (by omega) (by repeat (first | assumption | refine wset_ne (by decide) ?_ | exact wset_lt (by (try simp only [List.length_set]); exact wsome (by assumption)))) rfl (m_isLeaper hm hlp _) rfl (Nat.le_of_ble_eq_true rfl) (Nat.le_of_ble_eq_true rfl) ?_
  refine j_if_eqB (tgt := 16) iX6_chance_5 (by decide) (fun hno => Bool.noConfusion (hno.symm.trans (show _ = true from by rw [inR_nI (by omega) (by omega)]; exact decide_eq_true hj))) (fun _ => ?_)
  refine j_aload_n iX6_chance_8 rfl ?_
  refine j_iload_n iX6_chance_9 rfl ?_
  refine j_V1R okX6_isCell lk_X6_179 iX6_chance_10 (by omega) (by repeat (first | assumption | refine wset_ne (by decide) ?_ | exact wset_lt (by (try simp only [List.length_set]); exact wsome (by assumption)))) rfl (m_isCell hm hN _) rfl (Nat.le_of_ble_eq_true rfl) (Nat.le_of_ble_eq_true rfl) ?_
  refine j_if_neB (tgt := 19) iX6_chance_13 (by decide) (fun _ => ?_) (fun hno => Bool.noConfusion (hno.symm.trans (show _ = true from by rw [inR_nI (by omega) (by omega)]; exact decide_eq_true ht)))
  refine j_iload_n iX6_chance_19 rfl ?_
  refine j_iconst (v := nI 0) iX6_chance_20 (by decide) ?_
  refine j_bipush (v := nI 6) iX6_chance_21 (by decide) ?_
  refine j_S3R okX6_within lk_X6_68 iX6_chance_23 (by omega) (m_within _ _ _) rfl (Nat.le_of_ble_eq_true rfl) (Nat.le_of_ble_eq_true rfl) ?_
  refine j_if_eqB (tgt := 39) iX6_chance_26 (by decide) (fun hno => Bool.noConfusion (hno.symm.trans (show _ = true from by rw [wi_R (by decide), inR_nI (by omega) (by decide)]; exact decide_eq_true hm7))) (fun _ => ?_)
  refine j_aload_n iX6_chance_29 rfl ?_
  refine j_iload_n iX6_chance_30 rfl ?_
  refine j_iload_n iX6_chance_31 rfl ?_
  refine j_iload_n iX6_chance_32 rfl ?_
  refine j_V3X (r := .null) (w' := []) okX6_chanceNow lk_X6_254 iX6_chance_33 (by omega) (by repeat (first | assumption | refine wset_ne (by decide) ?_ | exact wset_lt (by (try simp only [List.length_set]); exact wsome (by assumption)))) rfl (m_chanceNow hm h34 h35 h44 h45 hN hfr hlp hks hst j t m (by omega) (hsN j hj) ht (by omega)) rfl (Nat.le_of_ble_eq_true rfl) (Nat.le_of_ble_eq_true rfl) ?_
  rintro v u ⟨rfl, x, y, rfl⟩
  refine j_goto (tgt := 41) iX6_chance_36 (by decide) ?_
  refine j_iret iX6_chance_41 rfl (by first | rfl | exact nar_bI _ | exact nar_bP) (⟨rfl, x, y, rfl⟩)
end
