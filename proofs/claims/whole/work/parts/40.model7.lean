/-! ===== the reference: ways ===== -/
def giStep (nx set e : Nat) (E : Nat → Nat) : Nat → Nat := if nx.testBit e = true then un E (set ||| 2 ^ e) (E (set ||| 2 ^ e) ||| 2 ^ e) else E
def gnx (f : Nat → Nat) (fr may set c : Nat) : Nat := ad (f c &&& fr &&& may) set
def goStep (f : Nat → Nat) (fr may N set c : Nat) (E : Nat → Nat) : Nat → Nat := if (E set).testBit c = true then fold (giStep (gnx f fr may set c) set) N 0 E else E
def goF (f : Nat → Nat) (fr may N set : Nat) (E : Nat → Nat) : Nat → Nat := fold (goStep f fr may N set) N 0 E
def lbStep (f : Nat → Nat) (fr may N set : Nat) (p : (Nat → Nat) × Nat) : (Nat → Nat) × Nat := if p.1 set ≠ 0 then (goF f fr may N set p.1, max p.2 (pop set)) else p
def lbF (f : Nat → Nat) (fr may N s c : Nat) : Nat := (fold (lbStep f fr may N) (2 ^ N - (2 ^ s ||| 2 ^ c)) (2 ^ s ||| 2 ^ c) (un (fun _ => 0) (2 ^ s ||| 2 ^ c) (2 ^ c), 0)).2
def wyStep (go : Nat) (L : Nat → Nat) (c : Nat) (p : Nat × Option Nat) : Nat × Option Nat := if p.1 < (if go.testBit c = true then L c else 0) then ((if go.testBit c = true then L c else 0), some c) else p
def wyF (go : Nat) (L : Nat → Nat) (N : Nat) : Nat × Option Nat := fold (wyStep go L) N 0 (1, none)
theorem giStep_b {nx set e : Nat} {E : Nat → Nat} (he : e < 12) (hE : ∀ i, E i < 4096) : ∀ i, giStep nx set e E i < 4096 := by
  intro i
  unfold giStep
  split
  · unfold un
    split
    · exact or_b (hE _) (pw_b he)
    · exact hE i
  · exact hE i
theorem giFold_b {nx set N : Nat} {E : Nat → Nat} (hN : N ≤ 12) (hE : ∀ i, E i < 4096) : ∀ i, fold (giStep nx set) N 0 E i < 4096 :=
  fold_inv (P := fun E : Nat → Nat => ∀ i, E i < 4096) N 0 E hE fun j y _ hj hy => giStep_b (e := j) (by omega) hy
theorem goStep_b {f : Nat → Nat} {fr may N set c : Nat} {E : Nat → Nat} (hN : N ≤ 12) (hE : ∀ i, E i < 4096) : ∀ i, goStep f fr may N set c E i < 4096 := by
  intro i
  unfold goStep
  split
  · exact giFold_b hN hE i
  · exact hE i
theorem goF_b {f : Nat → Nat} {fr may N set : Nat} {E : Nat → Nat} (hN : N ≤ 12) (hE : ∀ i, E i < 4096) : ∀ i, goF f fr may N set E i < 4096 :=
  fold_inv (step := goStep f fr may N set) (P := fun E : Nat → Nat => ∀ i, E i < 4096) N 0 E hE fun j y _ _ hy => goStep_b hN hy
theorem lbF_le (f : Nat → Nat) (fr may N s c : Nat) : lbF f fr may N s c ≤ 12 := by
  unfold lbF
  refine fold_inv (P := fun p : (Nat → Nat) × Nat => p.2 ≤ 12) _ _ _ (Nat.zero_le _) fun j y _ _ hy => ?_
  unfold lbStep
  split
  · have := pop_le j
    exact Nat.max_le.mpr ⟨hy, this⟩
  · exact hy
section
variable {w : mW} {bd R C fr lp lps sn sz : Nat} {wh : Bool} {nc nf nl tl : Nat} {sd : Int64} {ik : Bool} {kb kf kl kn : Nat} {hh : Int64} {ks sts pg sof rr cc cn : Nat → Nat}
theorem m_goOn {E : Nat → Nat} (hm : w[33]? = some (oM bd R C fr lp lps sn sz wh nc nf nl tl sd ik kb kf kl kn hh)) (h43 : w[43]? = some (nA 4096 E)) (hN : R * C ≤ 12) (hfr : fr < 4096) (hE : ∀ i, E i < 4096) (k S may : Nat) (hk : k < 5) (hS : S < 4096) (hmay : may < 4096) : JV 3 mX6_goOn [.ref 33, .int (nI k), .int (nI S), .int (nI may)] w (w.set 43 (nA 4096 (goF (fanF C (R * C) k) fr may (R * C) S E))) := by
  have LI : ∀ (Q : Option Value → mW → Prop) (c nx : Nat) (F : Nat → Nat), nx < 4096 → (∀ E', (∀ i, E' i < 4096) → E' = F → J 3 mX6_goOn 87 [.ref 33, .int (nI k), .int (nI S), .int (nI may), .int (nI c), .null, .null] [] (w.set 43 (nA 4096 E')) Q) →
      ∀ (n e : Nat) (E1 : Nat → Nat), e + n = R * C → (∀ i, E1 i < 4096) → fold (giStep nx S) n e E1 = F → J 3 mX6_goOn 44 [.ref 33, .int (nI k), .int (nI S), .int (nI may), .int (nI c), .int (nI nx), .int (nI e)] [] (w.set 43 (nA 4096 E1)) Q := by
    intro Q c nx F hnx kk n
    induction n with
    | zero =>
      intro e E1 he hb hF
      refine j_iload iX6_goOn_44 rfl ?_
      refine j_aload_n iX6_goOn_46 rfl ?_
      refine j_V0R okX6_cells lk_X6_131 iX6_goOn_47 (by omega) (by repeat (first | assumption | refine wset_ne (by decide) ?_ | exact wset_lt (by (try simp only [List.length_set]); exact wsome (by assumption)))) rfl (m_cells ((by repeat (first | assumption | refine wset_ne (by decide) ?_ | exact wset_lt (by (try simp only [List.length_set]); exact wsome (by assumption)))) : _ = some (oM bd R C fr lp lps sn sz wh nc nf nl tl sd ik kb kf kl kn hh))) rfl (Nat.le_of_ble_eq_true rfl) (Nat.le_of_ble_eq_true rfl) ?_
      refine j_icmp_geN (tgt := 87) iX6_goOn_50 (by decide) (by omega) (by omega) (fun _ => ?_) (fun hno => by exfalso; omega)
      exact J.fg (kk E1 hb hF) (by first | (simp [LF]; done) | (simp [LF, bI]; done))
    | succ n ih =>
      intro e E1 he hb hF
      have hix : S ||| 2 ^ e < 4096 := or_b hS (pw_b (by omega))
      have hb2 := giStep_b (nx := nx) (set := S) (e := e) (by omega) hb
      have ih2 := ih (e + 1) (giStep nx S e E1) (by omega) hb2 hF
      refine j_iload iX6_goOn_44 rfl ?_
      refine j_aload_n iX6_goOn_46 rfl ?_
      refine j_V0R okX6_cells lk_X6_131 iX6_goOn_47 (by omega) (by repeat (first | assumption | refine wset_ne (by decide) ?_ | exact wset_lt (by (try simp only [List.length_set]); exact wsome (by assumption)))) rfl (m_cells ((by repeat (first | assumption | refine wset_ne (by decide) ?_ | exact wset_lt (by (try simp only [List.length_set]); exact wsome (by assumption)))) : _ = some (oM bd R C fr lp lps sn sz wh nc nf nl tl sd ik kb kf kl kn hh))) rfl (Nat.le_of_ble_eq_true rfl) (Nat.le_of_ble_eq_true rfl) ?_
      refine j_icmp_geN (tgt := 87) iX6_goOn_50 (by decide) (by omega) (by omega) (fun hno => by exfalso; omega) (fun _ => ?_)
      refine j_iload iX6_goOn_53 rfl ?_
      refine j_iload iX6_goOn_55 rfl ?_
      refine j_S2R okX6_isIn lk_X6_92 iX6_goOn_57 (by omega) (m_isIn nx e (by omega) (by omega)) rfl (Nat.le_of_ble_eq_true rfl) (Nat.le_of_ble_eq_true rfl) ?_
      refine j_if_eqB (tgt := 81) iX6_goOn_60 (by decide) (fun h60 => ?_) (fun h60 => ?_)
      · refine j_iincN iX6_goOn_81 rfl (by decide) rfl ?_
        dsimp only [List.set]
        refine j_goto (tgt := 44) iX6_goOn_84 (by decide) ?_
        first | exact (by unfold giStep at ih2; rw [if_neg (nt h60)] at ih2; exact ih2) | exact (by rw [wset2]; unfold giStep at ih2; rw [if_pos h60] at ih2; exact ih2)
      · refine j_aload_n iX6_goOn_63 rfl ?_
        refine j_get fk_X6_38 iX6_goOn_64 (by repeat (first | assumption | refine wset_ne (by decide) ?_ | exact wset_lt (by (try simp only [List.length_set]); exact wsome (by assumption)))) (by rfl) ?_
        refine j_iload_n iX6_goOn_67 rfl ?_
        refine j_iconst (v := nI 1) iX6_goOn_68 (by decide) ?_
        refine j_iload iX6_goOn_69 rfl ?_
        refine j_ishlN iX6_goOn_71 (by omega) ?_
        refine j_iorN iX6_goOn_72  ?_
        refine j_dup2 iX6_goOn_73 rfl rfl ?_
        refine j_ialdN iX6_goOn_74 (by repeat (first | assumption | refine wset_ne (by decide) ?_ | exact wset_lt (by (try simp only [List.length_set]); exact wsome (by assumption)))) (by omega) ?_
        refine j_iconst (v := nI 1) iX6_goOn_75 (by decide) ?_
        refine j_iload iX6_goOn_76 rfl ?_
        refine j_ishlN iX6_goOn_78 (by omega) ?_
        refine j_iorN iX6_goOn_79  ?_
        refine j_iastN iX6_goOn_80 (by repeat (first | assumption | refine wset_ne (by decide) ?_ | exact wset_lt (by (try simp only [List.length_set]); exact wsome (by assumption)))) (by omega) ?_
        refine j_iincN iX6_goOn_81 rfl (by decide) rfl ?_
        dsimp only [List.set]
        refine j_goto (tgt := 44) iX6_goOn_84 (by decide) ?_
        first | exact (by unfold giStep at ih2; rw [if_neg (nt h60)] at ih2; exact ih2) | exact (by rw [wset2]; unfold giStep at ih2; rw [if_pos h60] at ih2; exact ih2)
  have L : ∀ (n c : Nat) (E1 : Nat → Nat), c + n = R * C → (∀ i, E1 i < 4096) → fold (goStep (fanF C (R * C) k) fr may (R * C) S) n c E1 = goF (fanF C (R * C) k) fr may (R * C) S E → J 3 mX6_goOn 3 [.ref 33, .int (nI k), .int (nI S), .int (nI may), .int (nI c), .null, .null] [] (w.set 43 (nA 4096 E1)) (fun v u => v = none ∧ u = w.set 43 (nA 4096 (goF (fanF C (R * C) k) fr may (R * C) S E))) := by
    intro n
    induction n with
    | zero =>
      intro c E1 hc hb hF
      have e : E1 = goF (fanF C (R * C) k) fr may (R * C) S E := hF
      subst e
      refine j_iload iX6_goOn_3 rfl ?_
      refine j_aload_n iX6_goOn_5 rfl ?_
      refine j_V0R okX6_cells lk_X6_131 iX6_goOn_6 (by omega) (by repeat (first | assumption | refine wset_ne (by decide) ?_ | exact wset_lt (by (try simp only [List.length_set]); exact wsome (by assumption)))) rfl (m_cells ((by repeat (first | assumption | refine wset_ne (by decide) ?_ | exact wset_lt (by (try simp only [List.length_set]); exact wsome (by assumption)))) : _ = some (oM bd R C fr lp lps sn sz wh nc nf nl tl sd ik kb kf kl kn hh))) rfl (Nat.le_of_ble_eq_true rfl) (Nat.le_of_ble_eq_true rfl) ?_
      refine j_icmp_geN (tgt := 93) iX6_goOn_9 (by decide) (by omega) (by omega) (fun _ => ?_) (fun hno => by exfalso; omega)
      refine j_vret iX6_goOn_93 rfl (⟨rfl, rfl⟩)
    | succ n ih =>
      intro c E1 hc hb hF
      have hES := hb S
      have hnx : gnx (fanF C (R * C) k) fr may S c < 4096 := ad_b (and_bR hmay)
      have K : ∀ E2 : Nat → Nat, (∀ i, E2 i < 4096) → E2 = goStep (fanF C (R * C) k) fr may (R * C) S c E1 → J 3 mX6_goOn 87 [.ref 33, .int (nI k), .int (nI S), .int (nI may), .int (nI c), .null, .null] [] (w.set 43 (nA 4096 E2)) (fun v u => v = none ∧ u = w.set 43 (nA 4096 (goF (fanF C (R * C) k) fr may (R * C) S E))) := by
        intro E2 hb2 h2
        have ih2 := ih (c + 1) E2 (by omega) hb2 (by rw [h2]; exact hF)
        refine j_iincN iX6_goOn_87 rfl (by decide) rfl ?_
        dsimp only [List.set]
        refine j_goto (tgt := 3) iX6_goOn_90 (by decide) ?_
        exact ih2
      refine j_iload iX6_goOn_3 rfl ?_
      refine j_aload_n iX6_goOn_5 rfl ?_
      refine j_V0R okX6_cells lk_X6_131 iX6_goOn_6 (by omega) (by repeat (first | assumption | refine wset_ne (by decide) ?_ | exact wset_lt (by (try simp only [List.length_set]); exact wsome (by assumption)))) rfl (m_cells ((by repeat (first | assumption | refine wset_ne (by decide) ?_ | exact wset_lt (by (try simp only [List.length_set]); exact wsome (by assumption)))) : _ = some (oM bd R C fr lp lps sn sz wh nc nf nl tl sd ik kb kf kl kn hh))) rfl (Nat.le_of_ble_eq_true rfl) (Nat.le_of_ble_eq_true rfl) ?_
      refine j_icmp_geN (tgt := 93) iX6_goOn_9 (by decide) (by omega) (by omega) (fun hno => by exfalso; omega) (fun _ => ?_)
      refine j_aload_n iX6_goOn_12 rfl ?_
      refine j_get fk_X6_38 iX6_goOn_13 (by repeat (first | assumption | refine wset_ne (by decide) ?_ | exact wset_lt (by (try simp only [List.length_set]); exact wsome (by assumption)))) (by rfl) ?_
      refine j_iload_n iX6_goOn_16 rfl ?_
      refine j_ialdN iX6_goOn_17 (by repeat (first | assumption | refine wset_ne (by decide) ?_ | exact wset_lt (by (try simp only [List.length_set]); exact wsome (by assumption)))) (by omega) ?_
      refine j_iload iX6_goOn_18 rfl ?_
      refine j_S2R okX6_isIn lk_X6_92 iX6_goOn_20 (by omega) (m_isIn _ c (by omega) (by omega)) rfl (Nat.le_of_ble_eq_true rfl) (Nat.le_of_ble_eq_true rfl) ?_
      refine j_if_eqB (tgt := 87) iX6_goOn_23 (by decide) (fun h23 => ?_) (fun h23 => ?_)
      · exact J.fg (K E1 hb (by unfold goStep; rw [if_neg (nt h23)])) (by first | (simp [LF]; done) | (simp [LF, bI]; done))
      · refine j_aload_n iX6_goOn_26 rfl ?_
        refine j_iload_n iX6_goOn_27 rfl ?_
        refine j_iload iX6_goOn_28 rfl ?_
        refine j_V2R okX6_around lk_X6_145 iX6_goOn_30 (by omega) (by repeat (first | assumption | refine wset_ne (by decide) ?_ | exact wset_lt (by (try simp only [List.length_set]); exact wsome (by assumption)))) rfl (m_around ((by repeat (first | assumption | refine wset_ne (by decide) ?_ | exact wset_lt (by (try simp only [List.length_set]); exact wsome (by assumption)))) : _ = some (oM bd R C fr lp lps sn sz wh nc nf nl tl sd ik kb kf kl kn hh)) hN hfr k c hk (by omega)) rfl (Nat.le_of_ble_eq_true rfl) (Nat.le_of_ble_eq_true rfl) ?_
        refine j_iload_n iX6_goOn_33 rfl ?_
        refine j_iandN iX6_goOn_34 ?_
        refine j_iload_n iX6_goOn_35 rfl ?_
        refine j_iconst (v := (-1)) iX6_goOn_36 (by decide) ?_
        refine j_ixor iX6_goOn_37 ?_
        refine j_iandnN iX6_goOn_38 ?_
        refine j_istore iX6_goOn_39 (by decide) rfl ?_
        dsimp only [List.set]
        refine j_iconst (v := nI 0) iX6_goOn_41 (by decide) ?_
        refine j_istore iX6_goOn_42 (by decide) rfl ?_
        dsimp only [List.set]
        exact LI _ c (gnx (fanF C (R * C) k) fr may S c) (goStep (fanF C (R * C) k) fr may (R * C) S c E1) hnx K (R * C) 0 E1 (by omega) hb (by unfold goStep; rw [if_pos h23])
  refine j_start (ls := [.ref 33, .int (nI k), .int (nI S), .int (nI may), .null, .null, .null]) rfl ?_
  have h0 := L (R * C) 0 E (by omega) hE rfl
  rw [wset_eq h43] at h0
  refine j_iconst (v := nI 0) iX6_goOn_0 (by decide) ?_
  refine j_istore iX6_goOn_1 (by decide) rfl ?_
  dsimp only [List.set]
  exact h0
theorem m_longestBy {E0 : Nat → Nat} (hm : w[33]? = some (oM bd R C fr lp lps sn sz wh nc nf nl tl sd ik kb kf kl kn hh)) (h34 : w[34]? = some (nA 4 ks)) (h35 : w[35]? = some (nA 4 sts)) (h43 : w[43]? = some (nA 4096 E0)) (hN : R * C ≤ 12) (hfr : fr < 4096) (hlp : lp ≤ 4) (hks : ∀ i, ks i < 5) (hst : ∀ i, sts i < 12) (j c : Nat) (hj : j < 4) (hs : sts j < R * C) (hc : c < R * C) : JX 4 mX6_longestBy [.ref 33, .int (nI j), .int (nI c)] w (fun v u => v = some (.int (nI (lbF (fanF C (R * C) (ks j)) fr (ad fr (othF lp sts j)) (R * C) (sts j) c))) ∧ ∃ x, u = w.set 43 (nA 4096 x)) := by
  have hkj := hks j
  have hx := hst j
  have hmay : ad fr (othF lp sts j) < 4096 := ad_b hfr
  have hP : 2 ^ (R * C) ≤ 4096 := Nat.pow_le_pow_right (by decide) hN
  have hbg : 2 ^ sts j ||| 2 ^ c < 2 ^ (R * C) := Nat.or_lt_two_pow (Nat.pow_lt_pow_right (by decide) hs) (Nat.pow_lt_pow_right (by decide) hc)
  have hpc : 2 ^ c < 4096 := pw_b (by omega)
  have L2 : ∀ (n S m : Nat) (E : Nat → Nat), S + n = 2 ^ (R * C) → (∀ i, E i < 4096) → m ≤ 12 → (fold (lbStep (fanF C (R * C) (ks j)) fr (ad fr (othF lp sts j)) (R * C)) n S (E, m)).2 = lbF (fanF C (R * C) (ks j)) fr (ad fr (othF lp sts j)) (R * C) (sts j) c → J 4 mX6_longestBy 64 [.ref 33, .int (nI j), .int (nI c), .int (nI (2 ^ sts j ||| 2 ^ c)), .int (nI (ad fr (othF lp sts j))), .int (nI m), .int (nI S)] [] (w.set 43 (nA 4096 E)) (fun v u => v = some (.int (nI (lbF (fanF C (R * C) (ks j)) fr (ad fr (othF lp sts j)) (R * C) (sts j) c))) ∧ ∃ x, u = w.set 43 (nA 4096 x)) := by
    intro n
    induction n with
    | zero =>
      intro S m E hS hE hm12 hF
      have e : m = lbF (fanF C (R * C) (ks j)) fr (ad fr (othF lp sts j)) (R * C) (sts j) c := hF
      refine j_iload iX6_longestBy_64 rfl ?_
      refine j_iconst (v := nI 1) iX6_longestBy_66 (by decide) ?_
      refine j_aload_n iX6_longestBy_67 rfl ?_
      refine j_V0R okX6_cells lk_X6_131 iX6_longestBy_68 (by omega) (by repeat (first | assumption | refine wset_ne (by decide) ?_ | exact wset_lt (by (try simp only [List.length_set]); exact wsome (by assumption)))) rfl (m_cells ((by repeat (first | assumption | refine wset_ne (by decide) ?_ | exact wset_lt (by (try simp only [List.length_set]); exact wsome (by assumption)))) : _ = some (oM bd R C fr lp lps sn sz wh nc nf nl tl sd ik kb kf kl kn hh))) rfl (Nat.le_of_ble_eq_true rfl) (Nat.le_of_ble_eq_true rfl) ?_
      refine j_ishlN iX6_longestBy_71 (by omega) ?_
      refine j_icmp_geN (tgt := 127) iX6_longestBy_72 (by decide) (by omega) (by omega) (fun _ => ?_) (fun hno => by exfalso; omega)
      refine j_iload iX6_longestBy_127 rfl ?_
      refine j_iret iX6_longestBy_129 rfl (by first | rfl | exact nar_bI _ | exact nar_bP) (⟨by rw [e], E, rfl⟩)
    | succ n ih =>
      intro S m E hS hE hm12 hF
      have hS2 : S < 4096 := by omega
      have hES := hE S
      have hp := pop_le S
      simp only [fold] at hF
      by_cases h0 : E S = 0
      · have ih2 := ih (S + 1) m E (by omega) hE hm12 (by rw [← hF]; unfold lbStep; rw [if_neg (fun z => z h0)])
        refine j_iload iX6_longestBy_64 rfl ?_
        refine j_iconst (v := nI 1) iX6_longestBy_66 (by decide) ?_
        refine j_aload_n iX6_longestBy_67 rfl ?_
        refine j_V0R okX6_cells lk_X6_131 iX6_longestBy_68 (by omega) (by repeat (first | assumption | refine wset_ne (by decide) ?_ | exact wset_lt (by (try simp only [List.length_set]); exact wsome (by assumption)))) rfl (m_cells ((by repeat (first | assumption | refine wset_ne (by decide) ?_ | exact wset_lt (by (try simp only [List.length_set]); exact wsome (by assumption)))) : _ = some (oM bd R C fr lp lps sn sz wh nc nf nl tl sd ik kb kf kl kn hh))) rfl (Nat.le_of_ble_eq_true rfl) (Nat.le_of_ble_eq_true rfl) ?_
        refine j_ishlN iX6_longestBy_71 (by omega) ?_
        refine j_icmp_geN (tgt := 127) iX6_longestBy_72 (by decide) (by omega) (by omega) (fun hno => by exfalso; omega) (fun _ => ?_)
        refine j_aload_n iX6_longestBy_75 rfl ?_
        refine j_get fk_X6_38 iX6_longestBy_76 (by repeat (first | assumption | refine wset_ne (by decide) ?_ | exact wset_lt (by (try simp only [List.length_set]); exact wsome (by assumption)))) (by rfl) ?_
        refine j_iload iX6_longestBy_79 rfl ?_
        refine j_ialdN iX6_longestBy_81 (by repeat (first | assumption | refine wset_ne (by decide) ?_ | exact wset_lt (by (try simp only [List.length_set]); exact wsome (by assumption)))) (by omega) ?_
        refine j_if_eqN (tgt := 121) iX6_longestBy_82 (by decide) (by omega) (fun _ => ?_) (fun hno => by exfalso; omega)
        refine j_iincN iX6_longestBy_121 rfl (by decide) rfl ?_
        dsimp only [List.set]
        refine j_goto (tgt := 64) iX6_longestBy_124 (by decide) ?_
        exact ih2
      · have ih2 := ih (S + 1) (max m (pop S)) (goF (fanF C (R * C) (ks j)) fr (ad fr (othF lp sts j)) (R * C) S E) (by omega) (goF_b hN hE) (Nat.max_le.mpr ⟨hm12, hp⟩) (by rw [← hF]; unfold lbStep; rw [if_pos h0])
        have K : ∀ q, q = max m (pop S) → J 4 mX6_longestBy 105 [.ref 33, .int (nI j), .int (nI c), .int (nI (2 ^ sts j ||| 2 ^ c)), .int (nI (ad fr (othF lp sts j))), .int (nI m), .int (nI S)] [.int (nI q)] (w.set 43 (nA 4096 E)) (fun v u => v = some (.int (nI (lbF (fanF C (R * C) (ks j)) fr (ad fr (othF lp sts j)) (R * C) (sts j) c))) ∧ ∃ x, u = w.set 43 (nA 4096 x)) := by
          intro q hq
          subst hq
          refine j_istore iX6_longestBy_105 (by decide) rfl ?_
          dsimp only [List.set]
          refine j_aload_n iX6_longestBy_107 rfl ?_
          refine j_aload_n iX6_longestBy_108 rfl ?_
          refine j_get fk_X6_7 iX6_longestBy_109 (by repeat (first | assumption | refine wset_ne (by decide) ?_ | exact wset_lt (by (try simp only [List.length_set]); exact wsome (by assumption)))) (by rfl) ?_
          refine j_iload_n iX6_longestBy_112 rfl ?_
          refine j_ialdN iX6_longestBy_113 (by repeat (first | assumption | refine wset_ne (by decide) ?_ | exact wset_lt (by (try simp only [List.length_set]); exact wsome (by assumption)))) (by omega) ?_
          refine j_iload iX6_longestBy_114 rfl ?_
          refine j_iload iX6_longestBy_116 rfl ?_
          refine j_V3U (r := .null) okX6_goOn lk_X6_212 iX6_longestBy_118 (by omega) (by repeat (first | assumption | refine wset_ne (by decide) ?_ | exact wset_lt (by (try simp only [List.length_set]); exact wsome (by assumption)))) rfl (m_goOn ((by repeat (first | assumption | refine wset_ne (by decide) ?_ | exact wset_lt (by (try simp only [List.length_set]); exact wsome (by assumption)))) : _ = some (oM bd R C fr lp lps sn sz wh nc nf nl tl sd ik kb kf kl kn hh)) (by repeat (first | assumption | refine wset_ne (by decide) ?_ | exact wset_lt (by (try simp only [List.length_set]); exact wsome (by assumption)))) hN hfr hE (ks j) S _ hkj hS2 hmay) rfl (Nat.le_of_ble_eq_true rfl) (Nat.le_of_ble_eq_true rfl) ?_
          refine j_iincN iX6_longestBy_121 rfl (by decide) rfl ?_
          dsimp only [List.set]
          refine j_goto (tgt := 64) iX6_longestBy_124 (by decide) ?_
          rw [wset2]; exact ih2
        refine j_iload iX6_longestBy_64 rfl ?_
        refine j_iconst (v := nI 1) iX6_longestBy_66 (by decide) ?_
        refine j_aload_n iX6_longestBy_67 rfl ?_
        refine j_V0R okX6_cells lk_X6_131 iX6_longestBy_68 (by omega) (by repeat (first | assumption | refine wset_ne (by decide) ?_ | exact wset_lt (by (try simp only [List.length_set]); exact wsome (by assumption)))) rfl (m_cells ((by repeat (first | assumption | refine wset_ne (by decide) ?_ | exact wset_lt (by (try simp only [List.length_set]); exact wsome (by assumption)))) : _ = some (oM bd R C fr lp lps sn sz wh nc nf nl tl sd ik kb kf kl kn hh))) rfl (Nat.le_of_ble_eq_true rfl) (Nat.le_of_ble_eq_true rfl) ?_
        refine j_ishlN iX6_longestBy_71 (by omega) ?_
        refine j_icmp_geN (tgt := 127) iX6_longestBy_72 (by decide) (by omega) (by omega) (fun hno => by exfalso; omega) (fun _ => ?_)
        refine j_aload_n iX6_longestBy_75 rfl ?_
        refine j_get fk_X6_38 iX6_longestBy_76 (by repeat (first | assumption | refine wset_ne (by decide) ?_ | exact wset_lt (by (try simp only [List.length_set]); exact wsome (by assumption)))) (by rfl) ?_
        refine j_iload iX6_longestBy_79 rfl ?_
        refine j_ialdN iX6_longestBy_81 (by repeat (first | assumption | refine wset_ne (by decide) ?_ | exact wset_lt (by (try simp only [List.length_set]); exact wsome (by assumption)))) (by omega) ?_
        refine j_if_eqN (tgt := 121) iX6_longestBy_82 (by decide) (by omega) (fun hno => by exfalso; omega) (fun _ => ?_)
        refine j_iload iX6_longestBy_85 rfl ?_
        refine j_S1R okX6_size lk_X6_185 iX6_longestBy_87 (by omega) (m_size S (by omega)) rfl (Nat.le_of_ble_eq_true rfl) (Nat.le_of_ble_eq_true rfl) ?_
        refine j_iload iX6_longestBy_90 rfl ?_
        refine j_icmp_leN (tgt := 103) iX6_longestBy_92 (by decide) (by omega) (by omega) (fun h92 => ?_) (fun h92 => ?_)
        · refine j_iload iX6_longestBy_103 rfl ?_
          exact K _ (by omega)
        · refine j_iload iX6_longestBy_95 rfl ?_
          refine j_S1R okX6_size lk_X6_185 iX6_longestBy_97 (by omega) (m_size S (by omega)) rfl (Nat.le_of_ble_eq_true rfl) (Nat.le_of_ble_eq_true rfl) ?_
          refine j_goto (tgt := 105) iX6_longestBy_100 (by decide) ?_
          exact K _ (by omega)
  have L1 : ∀ (n i : Nat) (g : Nat → Nat), i + n = 4096 → (∀ q, q < i → g q = 0) → J 4 mX6_longestBy 2 [.ref 33, .int (nI j), .int (nI c), .int (nI i), .null, .null, .null] [] (w.set 43 (nA 4096 g)) (fun v u => v = some (.int (nI (lbF (fanF C (R * C) (ks j)) fr (ad fr (othF lp sts j)) (R * C) (sts j) c))) ∧ ∃ x, u = w.set 43 (nA 4096 x)) := by
    intro n
    induction n with
    | zero =>
      intro i g hi hg
      have e43 : (w.set 43 (nA 4096 g))[43]? = some (nA 4096 g) := (by repeat (first | assumption | refine wset_ne (by decide) ?_ | exact wset_lt (by (try simp only [List.length_set]); exact wsome (by assumption))))
      refine j_arrN (g := fun _ => 0) (fun q hq => hg q (by omega)) e43 ?_
      rw [wset2]
      have hL := L2 (2 ^ (R * C) - (2 ^ sts j ||| 2 ^ c)) (2 ^ sts j ||| 2 ^ c) 0 (un (fun _ => 0) (2 ^ sts j ||| 2 ^ c) (2 ^ c)) (by omega) (fun q => by unfold un; split; exact hpc; exact (by decide : 0 < 4096)) (by decide) rfl
      refine j_iload_n iX6_longestBy_2 rfl ?_
      refine j_sipush (v := nI 4096) iX6_longestBy_3 (by decide) ?_
      refine j_icmp_geN (tgt := 22) iX6_longestBy_6 (by decide) (by omega) (by omega) (fun _ => ?_) (fun hno => by exfalso; omega)
      refine j_iconst (v := nI 1) iX6_longestBy_22 (by decide) ?_
      refine j_aload_n iX6_longestBy_23 rfl ?_
      refine j_get fk_X6_13 iX6_longestBy_24 (by repeat (first | assumption | refine wset_ne (by decide) ?_ | exact wset_lt (by (try simp only [List.length_set]); exact wsome (by assumption)))) (by rfl) ?_
      refine j_iload_n iX6_longestBy_27 rfl ?_
      refine j_ialdN iX6_longestBy_28 (by repeat (first | assumption | refine wset_ne (by decide) ?_ | exact wset_lt (by (try simp only [List.length_set]); exact wsome (by assumption)))) (by omega) ?_
      refine j_ishlN iX6_longestBy_29 (by omega) ?_
      refine j_iconst (v := nI 1) iX6_longestBy_30 (by decide) ?_
      refine j_iload_n iX6_longestBy_31 rfl ?_
      refine j_ishlN iX6_longestBy_32 (by omega) ?_
      refine j_iorN iX6_longestBy_33  ?_
      refine j_istore_n iX6_longestBy_34 (by decide) rfl ?_
      dsimp only [List.set]
      refine j_aload_n iX6_longestBy_35 rfl ?_
      refine j_get fk_X6_116 iX6_longestBy_36 (by repeat (first | assumption | refine wset_ne (by decide) ?_ | exact wset_lt (by (try simp only [List.length_set]); exact wsome (by assumption)))) (by rfl) ?_
      refine j_aload_n iX6_longestBy_39 rfl ?_
      refine j_iload_n iX6_longestBy_40 rfl ?_
      refine j_V1R okX6_others lk_X6_191 iX6_longestBy_41 (by omega) (by repeat (first | assumption | refine wset_ne (by decide) ?_ | exact wset_lt (by (try simp only [List.length_set]); exact wsome (by assumption)))) rfl (m_others ((by repeat (first | assumption | refine wset_ne (by decide) ?_ | exact wset_lt (by (try simp only [List.length_set]); exact wsome (by assumption)))) : _ = some (oM bd R C fr lp lps sn sz wh nc nf nl tl sd ik kb kf kl kn hh)) (by repeat (first | assumption | refine wset_ne (by decide) ?_ | exact wset_lt (by (try simp only [List.length_set]); exact wsome (by assumption)))) hlp hst j hj) rfl (Nat.le_of_ble_eq_true rfl) (Nat.le_of_ble_eq_true rfl) ?_
      refine j_iconst (v := (-1)) iX6_longestBy_44 (by decide) ?_
      refine j_ixor iX6_longestBy_45 ?_
      refine j_iandnN iX6_longestBy_46 ?_
      refine j_istore iX6_longestBy_47 (by decide) rfl ?_
      dsimp only [List.set]
      refine j_aload_n iX6_longestBy_49 rfl ?_
      refine j_get fk_X6_38 iX6_longestBy_50 (by repeat (first | assumption | refine wset_ne (by decide) ?_ | exact wset_lt (by (try simp only [List.length_set]); exact wsome (by assumption)))) (by rfl) ?_
      refine j_iload_n iX6_longestBy_53 rfl ?_
      refine j_iconst (v := nI 1) iX6_longestBy_54 (by decide) ?_
      refine j_iload_n iX6_longestBy_55 rfl ?_
      refine j_ishlN iX6_longestBy_56 (by omega) ?_
      refine j_iastN iX6_longestBy_57 (by repeat (first | assumption | refine wset_ne (by decide) ?_ | exact wset_lt (by (try simp only [List.length_set]); exact wsome (by assumption)))) (by omega) ?_
      refine j_iconst (v := nI 0) iX6_longestBy_58 (by decide) ?_
      refine j_istore iX6_longestBy_59 (by decide) rfl ?_
      dsimp only [List.set]
      refine j_iload_n iX6_longestBy_61 rfl ?_
      refine j_istore iX6_longestBy_62 (by decide) rfl ?_
      dsimp only [List.set]
      rw [wset2]; exact hL
    | succ n ih =>
      intro i g hi hg
      refine j_iload_n iX6_longestBy_2 rfl ?_
      refine j_sipush (v := nI 4096) iX6_longestBy_3 (by decide) ?_
      refine j_icmp_geN (tgt := 22) iX6_longestBy_6 (by decide) (by omega) (by omega) (fun hno => by exfalso; omega) (fun _ => ?_)
      refine j_aload_n iX6_longestBy_9 rfl ?_
      refine j_get fk_X6_38 iX6_longestBy_10 (by repeat (first | assumption | refine wset_ne (by decide) ?_ | exact wset_lt (by (try simp only [List.length_set]); exact wsome (by assumption)))) (by rfl) ?_
      refine j_iload_n iX6_longestBy_13 rfl ?_
      refine j_iconst (v := nI 0) iX6_longestBy_14 (by decide) ?_
      refine j_iastN iX6_longestBy_15 (by repeat (first | assumption | refine wset_ne (by decide) ?_ | exact wset_lt (by (try simp only [List.length_set]); exact wsome (by assumption)))) (by omega) ?_
      refine j_iincN iX6_longestBy_16 rfl (by decide) rfl ?_
      dsimp only [List.set]
      refine j_goto (tgt := 2) iX6_longestBy_19 (by decide) ?_
      rw [wset2]; exact ih (i + 1) _ (by omega) (un_upto hg rfl)
  refine j_start (ls := [.ref 33, .int (nI j), .int (nI c), .null, .null, .null, .null]) rfl ?_
  refine j_iconst (v := nI 0) iX6_longestBy_0 (by decide) ?_
  refine j_istore_n iX6_longestBy_1 (by decide) rfl ?_
  dsimp only [List.set]
  exact (by have := L1 4096 0 E0 rfl (fun q hq => absurd hq (Nat.not_lt_zero _)); rw [wset_eq h43] at this; exact this)
def wayM (C N fr lp : Nat) (ks sts : Nat → Nat) (j : Nat) : Nat × Option Nat := wyF (gol C N fr lp ks sts j) (lbF (fanF C N (ks j)) fr (ad fr (othF lp sts j)) N (sts j)) N
theorem m_wayOf {E0 : Nat → Nat} (hm : w[33]? = some (oM bd R C fr lp lps sn sz wh nc nf nl tl sd ik kb kf kl kn hh)) (h34 : w[34]? = some (nA 4 ks)) (h35 : w[35]? = some (nA 4 sts)) (h43 : w[43]? = some (nA 4096 E0)) (hN : R * C ≤ 12) (hfr : fr < 4096) (hlp : lp ≤ 4) (hks : ∀ i, ks i < 5) (hst : ∀ i, sts i < 12) (j y : Nat) (hj : j < 4) (hs : sts j < R * C) (hy : y < 2) : JX 5 mX6_wayOf [.ref 33, .int (nI j), .int (nI y)] w (fun v u => v = some (.int (if y = 0 then nI (wayM C (R * C) fr lp ks sts j).1 else oN (wayM C (R * C) fr lp ks sts j).2)) ∧ ∃ x, u = w.set 43 (nA 4096 x)) := by
  have hgb := gol_b (C := C) (N := R * C) (lp := lp) (ks := ks) (sts := sts) hfr j
  have L : ∀ (n c : Nat) (p : Nat × Option Nat) (E : Nat → Nat), c + n = R * C → p.1 ≤ 12 → fold (wyStep (gol C (R * C) fr lp ks sts j) (lbF (fanF C (R * C) (ks j)) fr (ad fr (othF lp sts j)) (R * C) (sts j))) n c p = wayM C (R * C) fr lp ks sts j → J 5 mX6_wayOf 15 [.ref 33, .int (nI j), .int (nI y), .int (nI p.1), .int (oN p.2), .int (nI (gol C (R * C) fr lp ks sts j)), .int (nI c), .null] [] (w.set 43 (nA 4096 E)) (fun v u => v = some (.int (if y = 0 then nI (wayM C (R * C) fr lp ks sts j).1 else oN (wayM C (R * C) fr lp ks sts j).2)) ∧ ∃ x, u = w.set 43 (nA 4096 x)) := by
    intro n
    induction n with
    | zero =>
      intro c p E hc hp hF
      have e : p = wayM C (R * C) fr lp ks sts j := hF
      subst e
      refine j_iload iX6_wayOf_15 rfl ?_
      refine j_aload_n iX6_wayOf_17 rfl ?_
      refine j_V0R okX6_cells lk_X6_131 iX6_wayOf_18 (by omega) (by repeat (first | assumption | refine wset_ne (by decide) ?_ | exact wset_lt (by (try simp only [List.length_set]); exact wsome (by assumption)))) rfl (m_cells ((by repeat (first | assumption | refine wset_ne (by decide) ?_ | exact wset_lt (by (try simp only [List.length_set]); exact wsome (by assumption)))) : _ = some (oM bd R C fr lp lps sn sz wh nc nf nl tl sd ik kb kf kl kn hh))) rfl (Nat.le_of_ble_eq_true rfl) (Nat.le_of_ble_eq_true rfl) ?_
      refine j_icmp_geN (tgt := 81) iX6_wayOf_21 (by decide) (by omega) (by omega) (fun _ => ?_) (fun hno => by exfalso; omega)
      refine j_iload_n iX6_wayOf_81 rfl ?_
      refine j_if_neN (tgt := 89) iX6_wayOf_82 (by decide) (by omega) (fun h82 => ?_) (fun h82 => ?_)
      · refine j_iload iX6_wayOf_89 rfl ?_
        refine j_iret iX6_wayOf_91 rfl (by first | rfl | exact nar_bI _ | exact nar_bP) (⟨by first | rw [if_pos h82] | rw [if_neg h82], E, rfl⟩)
      · refine j_iload_n iX6_wayOf_85 rfl ?_
        refine j_goto (tgt := 91) iX6_wayOf_86 (by decide) ?_
        refine j_iret iX6_wayOf_91 rfl (by first | rfl | exact nar_bI _ | exact nar_bP) (⟨by first | rw [if_pos h82] | rw [if_neg h82], E, rfl⟩)
    | succ n ih =>
      intro c p E hc hp hF
      have K : ∀ (q : Nat) (E' : Nat → Nat), q ≤ 12 → q = (if (gol C (R * C) fr lp ks sts j).testBit c = true then lbF (fanF C (R * C) (ks j)) fr (ad fr (othF lp sts j)) (R * C) (sts j) c else 0) → J 5 mX6_wayOf 45 [.ref 33, .int (nI j), .int (nI y), .int (nI p.1), .int (oN p.2), .int (nI (gol C (R * C) fr lp ks sts j)), .int (nI c), .null] [.int (nI q)] (w.set 43 (nA 4096 E')) (fun v u => v = some (.int (if y = 0 then nI (wayM C (R * C) fr lp ks sts j).1 else oN (wayM C (R * C) fr lp ks sts j).2)) ∧ ∃ x, u = w.set 43 (nA 4096 x)) := by
        intro q E' hq he
        simp only [fold] at hF
        have hst : wyStep (gol C (R * C) fr lp ks sts j) (lbF (fanF C (R * C) (ks j)) fr (ad fr (othF lp sts j)) (R * C) (sts j)) c p = if p.1 < q then (q, some c) else p := by unfold wyStep; rw [← he]
        rw [hst] at hF
        by_cases hlt : p.1 < q
        · rw [if_pos hlt] at hF
          have ih2 := ih (c + 1) (q, some c) E' (by omega) hq hF
          refine j_istore iX6_wayOf_45 (by decide) rfl ?_
          dsimp only [List.set]
          refine j_iload iX6_wayOf_47 rfl ?_
          refine j_iload_n iX6_wayOf_49 rfl ?_
          refine j_icmp_leN (tgt := 58) iX6_wayOf_50 (by decide) (by omega) (by omega) (fun hno => by exfalso; omega) (fun _ => ?_)
          refine j_iload iX6_wayOf_53 rfl ?_
          refine j_goto (tgt := 60) iX6_wayOf_55 (by decide) ?_
          refine j_istore iX6_wayOf_60 (by decide) rfl ?_
          dsimp only [List.set]
          refine j_iload iX6_wayOf_62 rfl ?_
          refine j_iload_n iX6_wayOf_64 rfl ?_
          refine j_icmp_leN (tgt := 73) iX6_wayOf_65 (by decide) (by omega) (by omega) (fun hno => by exfalso; omega) (fun _ => ?_)
          refine j_iload iX6_wayOf_68 rfl ?_
          refine j_goto (tgt := 74) iX6_wayOf_70 (by decide) ?_
          refine j_istore_n iX6_wayOf_74 (by decide) rfl ?_
          dsimp only [List.set]
          refine j_iincN iX6_wayOf_75 rfl (by decide) rfl ?_
          dsimp only [List.set]
          refine j_goto (tgt := 15) iX6_wayOf_78 (by decide) ?_
          exact J.fg ih2 (by simp [LF, oN])
        · rw [if_neg hlt] at hF
          have ih2 := ih (c + 1) p E' (by omega) hp hF
          refine j_istore iX6_wayOf_45 (by decide) rfl ?_
          dsimp only [List.set]
          refine j_iload iX6_wayOf_47 rfl ?_
          refine j_iload_n iX6_wayOf_49 rfl ?_
          refine j_icmp_leN (tgt := 58) iX6_wayOf_50 (by decide) (by omega) (by omega) (fun _ => ?_) (fun hno => by exfalso; omega)
          refine j_iload iX6_wayOf_58 rfl ?_
          refine j_istore iX6_wayOf_60 (by decide) rfl ?_
          dsimp only [List.set]
          refine j_iload iX6_wayOf_62 rfl ?_
          refine j_iload_n iX6_wayOf_64 rfl ?_
          refine j_icmp_leN (tgt := 73) iX6_wayOf_65 (by decide) (by omega) (by omega) (fun _ => ?_) (fun hno => by exfalso; omega)
          refine j_iload_n iX6_wayOf_73 rfl ?_
          refine j_istore_n iX6_wayOf_74 (by decide) rfl ?_
          dsimp only [List.set]
          refine j_iincN iX6_wayOf_75 rfl (by decide) rfl ?_
          dsimp only [List.set]
          refine j_goto (tgt := 15) iX6_wayOf_78 (by decide) ?_
          exact J.fg ih2 (by first | (simp [LF]; done) | (simp [LF, bI]; done))
      refine j_iload iX6_wayOf_15 rfl ?_
      refine j_aload_n iX6_wayOf_17 rfl ?_
      refine j_V0R okX6_cells lk_X6_131 iX6_wayOf_18 (by omega) (by repeat (first | assumption | refine wset_ne (by decide) ?_ | exact wset_lt (by (try simp only [List.length_set]); exact wsome (by assumption)))) rfl (m_cells ((by repeat (first | assumption | refine wset_ne (by decide) ?_ | exact wset_lt (by (try simp only [List.length_set]); exact wsome (by assumption)))) : _ = some (oM bd R C fr lp lps sn sz wh nc nf nl tl sd ik kb kf kl kn hh))) rfl (Nat.le_of_ble_eq_true rfl) (Nat.le_of_ble_eq_true rfl) ?_
      refine j_icmp_geN (tgt := 81) iX6_wayOf_21 (by decide) (by omega) (by omega) (fun hno => by exfalso; omega) (fun _ => ?_)
      refine j_iload iX6_wayOf_24 rfl ?_
      refine j_iload iX6_wayOf_26 rfl ?_
      refine j_S2R okX6_isIn lk_X6_92 iX6_wayOf_28 (by omega) (m_isIn _ c (by omega) (by omega)) rfl (Nat.le_of_ble_eq_true rfl) (Nat.le_of_ble_eq_true rfl) ?_
      refine j_if_eqB (tgt := 44) iX6_wayOf_31 (by decide) (fun h31 => ?_) (fun h31 => ?_)
      · refine j_iconst (v := nI 0) iX6_wayOf_44 (by decide) ?_
        first | exact K 0 E (by decide) (by rw [if_neg (nt h31)]) | exact K _ x (lbF_le _ _ _ _ _ _) (by rw [if_pos h31])
      · refine j_aload_n iX6_wayOf_34 rfl ?_
        refine j_iload_n iX6_wayOf_35 rfl ?_
        refine j_iload iX6_wayOf_36 rfl ?_
        refine j_V2X (r := .null) (w' := []) okX6_longestBy lk_X6_216 iX6_wayOf_38 (by omega) (by repeat (first | assumption | refine wset_ne (by decide) ?_ | exact wset_lt (by (try simp only [List.length_set]); exact wsome (by assumption)))) rfl ((m_longestBy (w := w.set 43 (nA 4096 E)) ((by repeat (first | assumption | refine wset_ne (by decide) ?_ | exact wset_lt (by (try simp only [List.length_set]); exact wsome (by assumption)))) : _ = some (oM bd R C fr lp lps sn sz wh nc nf nl tl sd ik kb kf kl kn hh)) (by repeat (first | assumption | refine wset_ne (by decide) ?_ | exact wset_lt (by (try simp only [List.length_set]); exact wsome (by assumption)))) (by repeat (first | assumption | refine wset_ne (by decide) ?_ | exact wset_lt (by (try simp only [List.length_set]); exact wsome (by assumption)))) (by repeat (first | assumption | refine wset_ne (by decide) ?_ | exact wset_lt (by (try simp only [List.length_set]); exact wsome (by assumption)))) hN hfr hlp hks hst j c hj hs (by omega))) rfl (Nat.le_of_ble_eq_true rfl) (Nat.le_of_ble_eq_true rfl) ?_
        rintro v u ⟨rfl, x, rfl⟩
        rw [wset2]
        refine j_goto (tgt := 45) iX6_wayOf_41 (by decide) ?_
        first | exact K 0 E (by decide) (by rw [if_neg (nt h31)]) | exact K _ x (lbF_le _ _ _ _ _ _) (by rw [if_pos h31])
  refine j_start (ls := [.ref 33, .int (nI j), .int (nI y), .null, .null, .null, .null, .null]) rfl ?_
  have h0 := L (R * C) 0 (1, none) E0 (by omega) (by decide) rfl
  rw [wset_eq h43] at h0
  refine j_iconst (v := nI 1) iX6_wayOf_0 (by decide) ?_
  refine j_istore_n iX6_wayOf_1 (by decide) rfl ?_
  dsimp only [List.set]
  refine j_iconst (v := (-1)) iX6_wayOf_2 (by decide) ?_
  refine j_istore iX6_wayOf_3 (by decide) rfl ?_
  dsimp only [List.set]
  refine j_aload_n iX6_wayOf_5 rfl ?_
  refine j_iload_n iX6_wayOf_6 rfl ?_
  refine j_V1R okX6_canGo lk_X6_154 iX6_wayOf_7 (by omega) (by repeat (first | assumption | refine wset_ne (by decide) ?_ | exact wset_lt (by (try simp only [List.length_set]); exact wsome (by assumption)))) rfl (m_canGo hm h34 h35 hN hfr hlp hst j hj (hks j) hs) rfl (Nat.le_of_ble_eq_true rfl) (Nat.le_of_ble_eq_true rfl) ?_
  refine j_istore iX6_wayOf_10 (by decide) rfl ?_
  dsimp only [List.set]
  refine j_iconst (v := nI 0) iX6_wayOf_12 (by decide) ?_
  refine j_istore iX6_wayOf_13 (by decide) rfl ?_
  dsimp only [List.set]
  exact J.fg h0 (by simp [LF, oN])
def leaperM (C N fr lp sn : Nat) (ks sts sof rr cc cn : Nat → Nat) (j y : Nat) : Int32 :=
  match y with
  | 0 => nI (ks j)
  | 1 => nI (sts j)
  | 2 => nI (wat C N fr ks sts j)
  | 3 => nI (gol C N fr lp ks sts j)
  | 4 => nI (smF sn sof rr cc cn j)
  | 5 => oN (askF (smF sn sof rr cc cn j))
  | 6 => nI (wayM C N fr lp ks sts j).1
  | _ => oN (wayM C N fr lp ks sts j).2
theorem m_leaperNow {E0 : Nat → Nat} (hm : w[33]? = some (oM bd R C fr lp lps sn sz wh nc nf nl tl sd ik kb kf kl kn hh)) (h34 : w[34]? = some (nA 4 ks)) (h35 : w[35]? = some (nA 4 sts)) (h36 : w[36]? = some (nA 6 sof)) (h37 : w[37]? = some (nA 6 rr)) (h38 : w[38]? = some (nA 6 cc)) (h39 : w[39]? = some (nA 6 cn)) (h43 : w[43]? = some (nA 4096 E0)) (hN : R * C ≤ 12) (hfr : fr < 4096) (hlp : lp ≤ 4) (hsn : sn ≤ 6) (hks : ∀ i, ks i < 5) (hst : ∀ i, sts i < 12) (hso : ∀ i, sof i < 4) (hrr : ∀ i, rr i < 4) (hcc : ∀ i, cc i < 4) (hcn : ∀ i, cn i < 2) (j y : Nat) (hj : j < 4) (hs : sts j < R * C) (hy : y < 8) : JX 6 mX6_leaperNow [.ref 33, .int (nI j), .int (nI y)] w (fun v u => v = some (.int (leaperM C (R * C) fr lp sn ks sts sof rr cc cn j y)) ∧ ∃ x, u = w.set 43 (nA 4096 x)) := by
  refine j_start (ls := [.ref 33, .int (nI j), .int (nI y)]) rfl ?_
  have e43 : w = w.set 43 (nA 4096 E0) := (wset_eq h43).symm
  rcases (show y = 0 ∨ y = 1 ∨ y = 2 ∨ y = 3 ∨ y = 4 ∨ y = 5 ∨ y = 6 ∨ y = 7 by omega) with rfl | rfl | rfl | rfl | rfl | rfl | rfl | rfl
  · refine j_iload_n iX6_leaperNow_0 rfl ?_
    refine j_tswIn (off := 39) (tgt := 40) iX6_leaperNow_1 (by decide) (by decide) (by decide) (by decide) ?_
    refine j_aload_n iX6_leaperNow_40 rfl ?_
    refine j_get fk_X6_7 iX6_leaperNow_41 (by repeat (first | assumption | refine wset_ne (by decide) ?_ | exact wset_lt (by (try simp only [List.length_set]); exact wsome (by assumption)))) (by rfl) ?_
    refine j_iload_n iX6_leaperNow_44 rfl ?_
    refine j_ialdN iX6_leaperNow_45 (by repeat (first | assumption | refine wset_ne (by decide) ?_ | exact wset_lt (by (try simp only [List.length_set]); exact wsome (by assumption)))) (by omega) ?_
    refine j_iret iX6_leaperNow_46 rfl (by first | rfl | exact nar_bI _ | exact nar_bP) (⟨rfl, E0, e43⟩)
  · refine j_iload_n iX6_leaperNow_0 rfl ?_
    refine j_tswIn (off := 46) (tgt := 47) iX6_leaperNow_1 (by decide) (by decide) (by decide) (by decide) ?_
    refine j_aload_n iX6_leaperNow_47 rfl ?_
    refine j_get fk_X6_13 iX6_leaperNow_48 (by repeat (first | assumption | refine wset_ne (by decide) ?_ | exact wset_lt (by (try simp only [List.length_set]); exact wsome (by assumption)))) (by rfl) ?_
    refine j_iload_n iX6_leaperNow_51 rfl ?_
    refine j_ialdN iX6_leaperNow_52 (by repeat (first | assumption | refine wset_ne (by decide) ?_ | exact wset_lt (by (try simp only [List.length_set]); exact wsome (by assumption)))) (by omega) ?_
    refine j_iret iX6_leaperNow_53 rfl (by first | rfl | exact nar_bI _ | exact nar_bP) (⟨rfl, E0, e43⟩)
  · refine j_iload_n iX6_leaperNow_0 rfl ?_
    refine j_tswIn (off := 53) (tgt := 54) iX6_leaperNow_1 (by decide) (by decide) (by decide) (by decide) ?_
    refine j_aload_n iX6_leaperNow_54 rfl ?_
    refine j_iload_n iX6_leaperNow_55 rfl ?_
    refine j_V1R okX6_watched lk_X6_148 iX6_leaperNow_56 (by omega) (by repeat (first | assumption | refine wset_ne (by decide) ?_ | exact wset_lt (by (try simp only [List.length_set]); exact wsome (by assumption)))) rfl (m_watched hm h34 h35 hN hfr j hj (hks j) hs) rfl (Nat.le_of_ble_eq_true rfl) (Nat.le_of_ble_eq_true rfl) ?_
    refine j_iret iX6_leaperNow_59 rfl (by first | rfl | exact nar_bI _ | exact nar_bP) (⟨rfl, E0, e43⟩)
  · refine j_iload_n iX6_leaperNow_0 rfl ?_
    refine j_tswIn (off := 59) (tgt := 60) iX6_leaperNow_1 (by decide) (by decide) (by decide) (by decide) ?_
    refine j_aload_n iX6_leaperNow_60 rfl ?_
    refine j_iload_n iX6_leaperNow_61 rfl ?_
    refine j_V1R okX6_canGo lk_X6_154 iX6_leaperNow_62 (by omega) (by repeat (first | assumption | refine wset_ne (by decide) ?_ | exact wset_lt (by (try simp only [List.length_set]); exact wsome (by assumption)))) rfl (m_canGo hm h34 h35 hN hfr hlp hst j hj (hks j) hs) rfl (Nat.le_of_ble_eq_true rfl) (Nat.le_of_ble_eq_true rfl) ?_
    refine j_iret iX6_leaperNow_65 rfl (by first | rfl | exact nar_bI _ | exact nar_bP) (⟨rfl, E0, e43⟩)
  · refine j_iload_n iX6_leaperNow_0 rfl ?_
    refine j_tswIn (off := 65) (tgt := 66) iX6_leaperNow_1 (by decide) (by decide) (by decide) (by decide) ?_
    refine j_aload_n iX6_leaperNow_66 rfl ?_
    refine j_iload_n iX6_leaperNow_67 rfl ?_
    refine j_V1R okX6_sortsOf lk_X6_157 iX6_leaperNow_68 (by omega) (by repeat (first | assumption | refine wset_ne (by decide) ?_ | exact wset_lt (by (try simp only [List.length_set]); exact wsome (by assumption)))) rfl (m_sortsOf hm h36 h37 h38 h39 hsn hso hrr hcc hcn j hj) rfl (Nat.le_of_ble_eq_true rfl) (Nat.le_of_ble_eq_true rfl) ?_
    refine j_iret iX6_leaperNow_71 rfl (by first | rfl | exact nar_bI _ | exact nar_bP) (⟨rfl, E0, e43⟩)
  · refine j_iload_n iX6_leaperNow_0 rfl ?_
    refine j_tswIn (off := 71) (tgt := 72) iX6_leaperNow_1 (by decide) (by decide) (by decide) (by decide) ?_
    refine j_aload_n iX6_leaperNow_72 rfl ?_
    refine j_iload_n iX6_leaperNow_73 rfl ?_
    refine j_V1R okX6_askOf lk_X6_160 iX6_leaperNow_74 (by omega) (by repeat (first | assumption | refine wset_ne (by decide) ?_ | exact wset_lt (by (try simp only [List.length_set]); exact wsome (by assumption)))) rfl (m_askOf hm h36 h37 h38 h39 hsn hso hrr hcc hcn j hj) rfl (Nat.le_of_ble_eq_true rfl) (Nat.le_of_ble_eq_true rfl) ?_
    refine j_iret iX6_leaperNow_77 rfl (by first | rfl | exact nar_bI _ | exact nar_bP) (⟨rfl, E0, e43⟩)
  · refine j_iload_n iX6_leaperNow_0 rfl ?_
    refine j_tswOut (tgt := 78) iX6_leaperNow_1 (by decide) (by decide) ?_
    refine j_aload_n iX6_leaperNow_78 rfl ?_
    refine j_iload_n iX6_leaperNow_79 rfl ?_
    refine j_iload_n iX6_leaperNow_80 rfl ?_
    refine j_bipush (v := nI 6) iX6_leaperNow_81 (by decide) ?_
    refine j_isubN iX6_leaperNow_83 (by omega) ?_
    refine j_top (y := nI 0) (by rfl) ?_
    refine j_V2X (r := .null) (w' := []) okX6_wayOf lk_X6_163 iX6_leaperNow_84 (by omega) (by repeat (first | assumption | refine wset_ne (by decide) ?_ | exact wset_lt (by (try simp only [List.length_set]); exact wsome (by assumption)))) rfl ((m_wayOf hm h34 h35 h43 hN hfr hlp hks hst j 0 hj hs (by decide))) rfl (Nat.le_of_ble_eq_true rfl) (Nat.le_of_ble_eq_true rfl) ?_
    rintro v u ⟨rfl, x, rfl⟩
    refine j_iret iX6_leaperNow_87 rfl (by first | rfl | exact nar_bI _ | exact nar_bP) (⟨rfl, x, rfl⟩)
  · refine j_iload_n iX6_leaperNow_0 rfl ?_
    refine j_tswOut (tgt := 78) iX6_leaperNow_1 (by decide) (by decide) ?_
    refine j_aload_n iX6_leaperNow_78 rfl ?_
    refine j_iload_n iX6_leaperNow_79 rfl ?_
    refine j_iload_n iX6_leaperNow_80 rfl ?_
    refine j_bipush (v := nI 6) iX6_leaperNow_81 (by decide) ?_
    refine j_isubN iX6_leaperNow_83 (by omega) ?_
    refine j_top (y := nI 1) (by rfl) ?_
    refine j_V2X (r := .null) (w' := []) okX6_wayOf lk_X6_163 iX6_leaperNow_84 (by omega) (by repeat (first | assumption | refine wset_ne (by decide) ?_ | exact wset_lt (by (try simp only [List.length_set]); exact wsome (by assumption)))) rfl ((m_wayOf hm h34 h35 h43 hN hfr hlp hks hst j 1 hj hs (by decide))) rfl (Nat.le_of_ble_eq_true rfl) (Nat.le_of_ble_eq_true rfl) ?_
    rintro v u ⟨rfl, x, rfl⟩
    refine j_iret iX6_leaperNow_87 rfl (by first | rfl | exact nar_bI _ | exact nar_bP) (⟨rfl, x, rfl⟩)
theorem m_leaper_u (hm : w[33]? = some (oM bd R C fr lp lps sn sz wh nc nf nl tl sd ik kb kf kl kn hh)) (hlp : lp ≤ 4) (x y : Int32) (hx : inR x lp = false) : JR 7 mX6_leaper [.ref 33, .int x, .int y] w (.int (-101)) w := by
  refine j_start (ls := [.ref 33, .int x, .int y]) rfl ?_
  refine j_aload_n iX6_leaper_0 rfl ?_
  refine j_iload_n iX6_leaper_1 rfl ?_
  refine j_V1R okX6_isLeaper lk_X6_166 iX6_leaper_2 (by omega) (by repeat (first | assumption | refine wset_ne (by decide) ?_ | exact wset_lt (by (try simp only [List.length_set]); exact wsome (by assumption)))) rfl (m_isLeaper hm hlp x) rfl (Nat.le_of_ble_eq_true rfl) (Nat.le_of_ble_eq_true rfl) ?_
  refine j_if_neB (tgt := 13) iX6_leaper_5 (by decide) (fun hno => Bool.noConfusion (hno.symm.trans (show _ = false from hx))) (fun _ => ?_)
  refine j_bipush (v := (-101)) iX6_leaper_8 (by decide) ?_
  refine j_goto (tgt := 34) iX6_leaper_10 (by decide) ?_
  refine j_iret iX6_leaper_34 rfl (by first | rfl | exact nar_bI _ | exact nar_bP) (⟨rfl, rfl⟩)
theorem m_leaper_o (hm : w[33]? = some (oM bd R C fr lp lps sn sz wh nc nf nl tl sd ik kb kf kl kn hh)) (hlp : lp ≤ 4) (x y : Int32) (hx : inR x lp = true) (hy : inR y 8 = false) : JR 7 mX6_leaper [.ref 33, .int x, .int y] w (.int (-102)) w := by
  refine j_start (ls := [.ref 33, .int x, .int y]) rfl ?_
  refine j_aload_n iX6_leaper_0 rfl ?_
  refine j_iload_n iX6_leaper_1 rfl ?_
  refine j_V1R okX6_isLeaper lk_X6_166 iX6_leaper_2 (by omega) (by repeat (first | assumption | refine wset_ne (by decide) ?_ | exact wset_lt (by (try simp only [List.length_set]); exact wsome (by assumption)))) rfl (m_isLeaper hm hlp x) rfl (Nat.le_of_ble_eq_true rfl) (Nat.le_of_ble_eq_true rfl) ?_
  refine j_if_neB (tgt := 13) iX6_leaper_5 (by decide) (fun _ => ?_) (fun hno => Bool.noConfusion (hno.symm.trans (show _ = true from hx)))
  refine j_iload_n iX6_leaper_13 rfl ?_
  refine j_iconst (v := nI 0) iX6_leaper_14 (by decide) ?_
  refine j_bipush (v := nI 7) iX6_leaper_15 (by decide) ?_
  refine j_S3R okX6_within lk_X6_68 iX6_leaper_17 (by omega) (m_within _ _ _) rfl (Nat.le_of_ble_eq_true rfl) (Nat.le_of_ble_eq_true rfl) ?_
  refine j_if_eqB (tgt := 32) iX6_leaper_20 (by decide) (fun _ => ?_) (fun hno => Bool.noConfusion (hno.symm.trans (show _ = false from by rw [wi_R (by decide)]; exact hy)))
  refine j_bipush (v := (-102)) iX6_leaper_32 (by decide) ?_
  refine j_iret iX6_leaper_34 rfl (by first | rfl | exact nar_bI _ | exact nar_bP) (⟨rfl, rfl⟩)
theorem m_leaper {E0 : Nat → Nat} (hm : w[33]? = some (oM bd R C fr lp lps sn sz wh nc nf nl tl sd ik kb kf kl kn hh)) (h34 : w[34]? = some (nA 4 ks)) (h35 : w[35]? = some (nA 4 sts)) (h36 : w[36]? = some (nA 6 sof)) (h37 : w[37]? = some (nA 6 rr)) (h38 : w[38]? = some (nA 6 cc)) (h39 : w[39]? = some (nA 6 cn)) (h43 : w[43]? = some (nA 4096 E0)) (hN : R * C ≤ 12) (hfr : fr < 4096) (hlp : lp ≤ 4) (hsn : sn ≤ 6) (hks : ∀ i, ks i < 5) (hst : ∀ i, sts i < 12) (hsN : ∀ i, i < lp → sts i < R * C) (hso : ∀ i, sof i < 4) (hrr : ∀ i, rr i < 4) (hcc : ∀ i, cc i < 4) (hcn : ∀ i, cn i < 2) (j y : Nat) (hj : j < lp) (hy : y < 8) : JX 7 mX6_leaper [.ref 33, .int (nI j), .int (nI y)] w (fun v u => v = some (.int (leaperM C (R * C) fr lp sn ks sts sof rr cc cn j y)) ∧ ∃ x, u = w.set 43 (nA 4096 x)) := by
  refine j_start (ls := [.ref 33, .int (nI j), .int (nI y)]) rfl ?_
  refine j_aload_n iX6_leaper_0 rfl ?_
  refine j_iload_n iX6_leaper_1 rfl ?_
  refine j_V1R okX6_isLeaper lk_X6_166 iX6_leaper_2 (by omega) (by repeat (first | assumption | refine wset_ne (by decide) ?_ | exact wset_lt (by (try simp only [List.length_set]); exact wsome (by assumption)))) rfl (m_isLeaper hm hlp _) rfl (Nat.le_of_ble_eq_true rfl) (Nat.le_of_ble_eq_true rfl) ?_
  refine j_if_neB (tgt := 13) iX6_leaper_5 (by decide) (fun _ => ?_) (fun hno => Bool.noConfusion (hno.symm.trans (show _ = true from by rw [inR_nI (by omega) (by omega)]; exact decide_eq_true hj)))
  refine j_iload_n iX6_leaper_13 rfl ?_
  refine j_iconst (v := nI 0) iX6_leaper_14 (by decide) ?_
  refine j_bipush (v := nI 7) iX6_leaper_15 (by decide) ?_
  refine j_S3R okX6_within lk_X6_68 iX6_leaper_17 (by omega) (m_within _ _ _) rfl (Nat.le_of_ble_eq_true rfl) (Nat.le_of_ble_eq_true rfl) ?_
  refine j_if_eqB (tgt := 32) iX6_leaper_20 (by decide) (fun hno => Bool.noConfusion (hno.symm.trans (show _ = true from by rw [wi_R (by decide), inR_nI (by omega) (by decide)]; exact decide_eq_true hy))) (fun _ => ?_)
  refine j_aload_n iX6_leaper_23 rfl ?_
  refine j_iload_n iX6_leaper_24 rfl ?_
  refine j_iload_n iX6_leaper_25 rfl ?_
  refine j_V2X (r := .null) (w' := []) okX6_leaperNow lk_X6_170 iX6_leaper_26 (by omega) (by repeat (first | assumption | refine wset_ne (by decide) ?_ | exact wset_lt (by (try simp only [List.length_set]); exact wsome (by assumption)))) rfl ((m_leaperNow hm h34 h35 h36 h37 h38 h39 h43 hN hfr hlp hsn hks hst hso hrr hcc hcn j y (by omega) (hsN j hj) hy)) rfl (Nat.le_of_ble_eq_true rfl) (Nat.le_of_ble_eq_true rfl) ?_
  rintro v u ⟨rfl, x, rfl⟩
  refine j_goto (tgt := 34) iX6_leaper_29 (by decide) ?_
  refine j_iret iX6_leaper_34 rfl (by first | rfl | exact nar_bI _ | exact nar_bP) (⟨rfl, x, rfl⟩)
end
