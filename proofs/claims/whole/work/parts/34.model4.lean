/-! ===== the reference: hops, peace, guards, parts, shades ===== -/
theorem sizeFrom_mono {A B : Nat} (h : ∀ i, A.testBit i = true → B.testBit i = true) : ∀ n i a b, a ≤ b → sizeFrom A n i a ≤ sizeFrom B n i b := by
  intro n
  induction n with
  | zero => intro i a b hab; exact hab
  | succ n ih =>
    intro i a b hab
    refine ih _ _ _ ?_
    have := h i
    cases hA : A.testBit i <;> cases hB : B.testBit i <;> simp_all <;> omega
theorem sizeFrom_lt {A B : Nat} (h : ∀ i, A.testBit i = true → B.testBit i = true) {t : Nat} (ht : B.testBit t = true) (ht2 : A.testBit t = false) : ∀ n i a b, a ≤ b → i ≤ t → t < i + n → sizeFrom A n i a < sizeFrom B n i b := by
  intro n
  induction n with
  | zero => intro i a b _ h1 h2; omega
  | succ n ih =>
    intro i a b hab h1 h2
    simp only [sizeFrom]
    by_cases e : i = t
    · subst e
      rw [ht, ht2]
      have := sizeFrom_mono h n (i + 1) (a + 1) (b + 1) (by omega)
      have h3 : sizeFrom A n (i + 1) (a + false.toNat) < sizeFrom A n (i + 1) (a + 1) := by
        have : ∀ n i a, sizeFrom A n i a < sizeFrom A n i (a + 1) := by
          intro n
          induction n with
          | zero => intro i a; exact Nat.lt_succ_self _
          | succ n ih => intro i a; simp only [sizeFrom]; rw [show a + 1 + (A.testBit i).toNat = a + (A.testBit i).toNat + 1 by omega]; exact ih _ _
        exact this n (i + 1) a
      exact Nat.lt_of_lt_of_le h3 this
    · refine ih (i + 1) _ _ ?_ (by omega) (by omega)
      have := h i
      cases hA : A.testBit i <;> cases hB : B.testBit i <;> simp_all <;> omega
theorem pop_mono {A B : Nat} (h : ∀ i, A.testBit i = true → B.testBit i = true) : pop A ≤ pop B := sizeFrom_mono h 12 0 0 0 (Nat.le_refl _)
/-- a set that grows holds more -/
theorem pop_grow {A X : Nat} (hB : A ||| X < 4096) (hne : A ||| X ≠ A) : pop A < pop (A ||| X) := by
  have hsub : ∀ i, A.testBit i = true → (A ||| X).testBit i = true := fun i h => or_tb.mpr (Or.inl h)
  have : ∃ t, (A ||| X).testBit t = true ∧ A.testBit t = false := by
    apply Classical.byContradiction
    intro hn
    apply hne
    apply tb_ext
    intro i
    refine ⟨fun h => ?_, hsub i⟩
    cases hA : A.testBit i with
    | true => rfl
    | false => exact absurd ⟨i, h, hA⟩ hn
  obtain ⟨t, h1, h2⟩ := this
  have ht : t < 12 := by
    apply Nat.lt_of_not_le
    intro z
    rw [tb_b hB z] at h1; cases h1
  exact sizeFrom_lt hsub h1 h2 12 0 0 0 (Nat.le_refl _) (Nat.zero_le _) (by omega)
theorem pop_pw {c : Nat} (hc : c < 12) : pop (2 ^ c) = 1 := by
  have : ∀ c : Fin 12, pop (2 ^ c.val) = 1 := by decide +kernel
  exact this ⟨c, hc⟩
def hmFrom (f : Nat → Nat) (fr oth t : Nat) : Nat → Nat → Nat → Option Nat
  | 0, _, _ => none
  | n + 1, i, S => if S.testBit t = true then some i else if S ||| ad (spread f S &&& fr) oth = S then none else hmFrom f fr oth t n (i + 1) (S ||| ad (spread f S &&& fr) oth)
def psStep (f : Nat → Nat) (fr set best : Nat) : Nat := if ad set fr = 0 ∧ pop best < pop set ∧ spread f set &&& fr &&& set = 0 then set else best
def psF (f : Nat → Nat) (fr : Nat) : Nat := fold (psStep f fr) (fr + 1) 0 0
def gsStep (f : Nat → Nat) (fr set best : Nat) : Nat := if ad set fr = 0 ∧ pop set < pop best ∧ spread f set &&& fr ||| set = fr then set else best
def gsF (f : Nat → Nat) (fr : Nat) : Nat := fold (gsStep f fr) (fr + 1) 0 fr
def pnStep (f : Nat → Nat) (fr c : Nat) (p : Nat × Nat) : Nat × Nat := if p.1.testBit c = true then (ad p.1 (partF f fr (2 ^ c)), p.2 + 1) else p
def pnF (f : Nat → Nat) (N fr : Nat) : Nat := (fold (pnStep f fr) N 0 (fr, 0)).2
def asStep (f : Nat → Nat) (fr c : Nat) (q : Bool) : Bool := q && decide ((shFrom f fr 12 (if fr.testBit c = true then 2 ^ c else 0, 0)).1 &&& (shFrom f fr 12 (if fr.testBit c = true then 2 ^ c else 0, 0)).2 = 0)
def asF (f : Nat → Nat) (N fr : Nat) : Bool := fold (asStep f fr) N 0 true
theorem shFrom_b {f : Nat → Nat} (hf : ∀ i, f i < 4096) {fr : Nat} : ∀ n p, p.1 < 4096 → p.2 < 4096 → (shFrom f fr n p).1 < 4096 ∧ (shFrom f fr n p).2 < 4096 := by
  intro n
  induction n with
  | zero => intro p h1 h2; exact ⟨h1, h2⟩
  | succ n ih =>
    intro p h1 h2
    exact ih _ (or_b h1 (and_bL (spread_b hf _))) (or_b h2 (and_bL (spread_b hf _)))
section
variable {w : mW} {bd R C fr lp lps sn sz : Nat} {wh : Bool} {nc nf nl tl : Nat} {sd : Int64} {ik : Bool} {kb kf kl kn : Nat} {hh : Int64} {ks sts pg : Nat → Nat}
theorem m_hopsNow (hm : w[33]? = some (oM bd R C fr lp lps sn sz wh nc nf nl tl sd ik kb kf kl kn hh)) (h34 : w[34]? = some (nA 4 ks)) (h35 : w[35]? = some (nA 4 sts)) (hN : R * C ≤ 12) (hfr : fr < 4096) (hlp : lp ≤ 4) (hks : ∀ i, ks i < 5) (hst : ∀ i, sts i < 12) (j t : Nat) (hj : j < 4) (ht : t < 12) : JR 4 mX6_hopsNow [.ref 33, .int (nI j), .int (nI t)] w (.int (oN (hmFrom (fanF C (R * C) (ks j)) fr (othF lp sts j) t 12 0 (2 ^ sts j)))) w := by
  have hfb : ∀ i, fanF C (R * C) (ks j) i < 4096 := fun i => fanF_b _ _ _ _ hN
  have hx := hst j
  have L : ∀ (n i S : Nat), 13 ≤ pop S + n → S < 4096 → J 4 mX6_hopsNow 12 [.ref 33, .int (nI j), .int (nI t), .int (nI S), .int (nI i), .null] [] w (fun v u => v = some (.int (oN (hmFrom (fanF C (R * C) (ks j)) fr (othF lp sts j) t n i S))) ∧ u = w) := by
    intro n
    induction n with
    | zero =>
      intro i S h1 h2
      have := pop_le S
      omega
    | succ n ih =>
      intro i S h1 h2
      have hmo : S ||| ad (spread (fanF C (R * C) (ks j)) S &&& fr) (othF lp sts j) < 4096 := or_b h2 (ad_b (and_bR hfr))
      refine j_iload_n iX6_hopsNow_12 rfl ?_
      refine j_iload_n iX6_hopsNow_13 rfl ?_
      refine j_S2R okX6_isIn lk_X6_92 iX6_hopsNow_14 (by omega) (m_isIn S t (by omega) (by omega)) rfl (Nat.le_of_ble_eq_true rfl) (Nat.le_of_ble_eq_true rfl) ?_
      refine j_if_neB (tgt := 60) iX6_hopsNow_17 (by decide) (fun h17 => ?_) (fun h17 => ?_)
      · refine j_iload iX6_hopsNow_60 rfl ?_
        refine j_iret iX6_hopsNow_62 rfl (by first | rfl | exact nar_bI _ | exact nar_bP) (⟨by simp only [hmFrom, if_pos h17]; rfl, rfl⟩)
      · refine j_iload_n iX6_hopsNow_20 rfl ?_
        refine j_aload_n iX6_hopsNow_21 rfl ?_
        refine j_aload_n iX6_hopsNow_22 rfl ?_
        refine j_get fk_X6_7 iX6_hopsNow_23 (by repeat (first | assumption | refine wset_ne (by decide) ?_ | exact wset_lt (by (try simp only [List.length_set]); exact wsome (by assumption)))) (by rfl) ?_
        refine j_iload_n iX6_hopsNow_26 rfl ?_
        refine j_ialdN iX6_hopsNow_27 (by repeat (first | assumption | refine wset_ne (by decide) ?_ | exact wset_lt (by (try simp only [List.length_set]); exact wsome (by assumption)))) (by omega) ?_
        refine j_iload_n iX6_hopsNow_28 rfl ?_
        refine j_V2R okX6_aroundAll lk_X6_188 iX6_hopsNow_29 (by omega) (by repeat (first | assumption | refine wset_ne (by decide) ?_ | exact wset_lt (by (try simp only [List.length_set]); exact wsome (by assumption)))) rfl (m_aroundAll hm hN hfr (ks j) S (hks j) (by omega)) rfl (Nat.le_of_ble_eq_true rfl) (Nat.le_of_ble_eq_true rfl) ?_
        refine j_aload_n iX6_hopsNow_32 rfl ?_
        refine j_iload_n iX6_hopsNow_33 rfl ?_
        refine j_V1R okX6_others lk_X6_191 iX6_hopsNow_34 (by omega) (by repeat (first | assumption | refine wset_ne (by decide) ?_ | exact wset_lt (by (try simp only [List.length_set]); exact wsome (by assumption)))) rfl (m_others hm h35 hlp hst j hj) rfl (Nat.le_of_ble_eq_true rfl) (Nat.le_of_ble_eq_true rfl) ?_
        refine j_iconst (v := (-1)) iX6_hopsNow_37 (by decide) ?_
        refine j_ixor iX6_hopsNow_38 ?_
        refine j_iandnN iX6_hopsNow_39 ?_
        refine j_iorN iX6_hopsNow_40  ?_
        refine j_istore iX6_hopsNow_41 (by decide) rfl ?_
        dsimp only [List.set]
        refine j_iload iX6_hopsNow_43 rfl ?_
        refine j_iload_n iX6_hopsNow_45 rfl ?_
        refine j_icmp_neN (tgt := 51) iX6_hopsNow_46 (by decide) (by omega) (by omega) (fun h46 => ?_) (fun h46 => ?_)
        · refine j_iload iX6_hopsNow_51 rfl ?_
          refine j_istore_n iX6_hopsNow_53 (by decide) rfl ?_
          dsimp only [List.set]
          refine j_iincN iX6_hopsNow_54 rfl (by decide) rfl ?_
          dsimp only [List.set]
          refine j_goto (tgt := 12) iX6_hopsNow_57 (by decide) ?_
          exact J.fg (by have := pop_grow hmo h46; simpa only [hmFrom, if_neg (nt h17), if_neg h46] using ih (i + 1) _ (by omega) hmo) (by first | (simp [LF]; done) | (simp [LF, bI]; done))
        · refine j_iconst (v := (-1)) iX6_hopsNow_49 (by decide) ?_
          refine j_iret iX6_hopsNow_50 rfl (by first | rfl | exact nar_bI _ | exact nar_bP) (⟨by simp only [hmFrom, if_neg (nt h17), if_pos h46]; rfl, rfl⟩)
  refine j_start (ls := [.ref 33, .int (nI j), .int (nI t), .null, .null, .null]) rfl ?_
  refine j_iconst (v := nI 1) iX6_hopsNow_0 (by decide) ?_
  refine j_aload_n iX6_hopsNow_1 rfl ?_
  refine j_get fk_X6_13 iX6_hopsNow_2 (by repeat (first | assumption | refine wset_ne (by decide) ?_ | exact wset_lt (by (try simp only [List.length_set]); exact wsome (by assumption)))) (by rfl) ?_
  refine j_iload_n iX6_hopsNow_5 rfl ?_
  refine j_ialdN iX6_hopsNow_6 (by repeat (first | assumption | refine wset_ne (by decide) ?_ | exact wset_lt (by (try simp only [List.length_set]); exact wsome (by assumption)))) (by omega) ?_
  refine j_ishlN iX6_hopsNow_7 (by omega) ?_
  refine j_istore_n iX6_hopsNow_8 (by decide) rfl ?_
  dsimp only [List.set]
  refine j_iconst (v := nI 0) iX6_hopsNow_9 (by decide) ?_
  refine j_istore iX6_hopsNow_10 (by decide) rfl ?_
  dsimp only [List.set]
  exact L 12 0 _ (by rw [pop_pw hx]; omega) (pw_b hx)
theorem m_hops_u (hm : w[33]? = some (oM bd R C fr lp lps sn sz wh nc nf nl tl sd ik kb kf kl kn hh)) (hN : R * C ≤ 12) (hlp : lp ≤ 4) (x y : Int32) (hx : inR x lp = false ∨ inR y (R * C) = false) : JR 5 mX6_hops [.ref 33, .int x, .int y] w (.int (-101)) w := by
  refine j_start (ls := [.ref 33, .int x, .int y]) rfl ?_
  refine j_aload_n iX6_hops_0 rfl ?_
  refine j_iload_n iX6_hops_1 rfl ?_
  refine j_V1R okX6_isLeaper lk_X6_166 iX6_hops_2 (by omega) (by repeat (first | assumption | refine wset_ne (by decide) ?_ | exact wset_lt (by (try simp only [List.length_set]); exact wsome (by assumption)))) rfl (m_isLeaper hm hlp x) rfl (Nat.le_of_ble_eq_true rfl) (Nat.le_of_ble_eq_true rfl) ?_
  refine j_if_eqB (tgt := 25) iX6_hops_5 (by decide) (fun h5 => ?_) (fun h5 => ?_)
  · refine j_bipush (v := (-101)) iX6_hops_25 (by decide) ?_
    refine j_iret iX6_hops_27 rfl (by first | rfl | exact nar_bI _ | exact nar_bP) (⟨rfl, rfl⟩)
  · refine j_aload_n iX6_hops_8 rfl ?_
    refine j_iload_n iX6_hops_9 rfl ?_
    refine j_V1R okX6_isCell lk_X6_179 iX6_hops_10 (by omega) (by repeat (first | assumption | refine wset_ne (by decide) ?_ | exact wset_lt (by (try simp only [List.length_set]); exact wsome (by assumption)))) rfl (m_isCell hm hN y) rfl (Nat.le_of_ble_eq_true rfl) (Nat.le_of_ble_eq_true rfl) ?_
    refine j_if_eqB (tgt := 25) iX6_hops_13 (by decide) (fun _ => ?_) (fun hno => Bool.noConfusion (hno.symm.trans (show _ = false from by rcases hx with q | q; (rw [h5] at q; cases q); exact q)))
    refine j_bipush (v := (-101)) iX6_hops_25 (by decide) ?_
    refine j_iret iX6_hops_27 rfl (by first | rfl | exact nar_bI _ | exact nar_bP) (⟨rfl, rfl⟩)
theorem m_hops (hm : w[33]? = some (oM bd R C fr lp lps sn sz wh nc nf nl tl sd ik kb kf kl kn hh)) (h34 : w[34]? = some (nA 4 ks)) (h35 : w[35]? = some (nA 4 sts)) (hN : R * C ≤ 12) (hfr : fr < 4096) (hlp : lp ≤ 4) (hks : ∀ i, ks i < 5) (hst : ∀ i, sts i < 12) (j t : Nat) (hj : j < lp) (ht : t < R * C) : JR 5 mX6_hops [.ref 33, .int (nI j), .int (nI t)] w (.int (oN (hmFrom (fanF C (R * C) (ks j)) fr (othF lp sts j) t 12 0 (2 ^ sts j)))) w := by
  refine j_start (ls := [.ref 33, .int (nI j), .int (nI t)]) rfl ?_
  refine j_aload_n iX6_hops_0 rfl ?_
  refine j_iload_n iX6_hops_1 rfl ?_
  refine j_V1R okX6_isLeaper lk_X6_166 iX6_hops_2 (by omega) (by repeat (first | assumption | refine wset_ne (by decide) ?_ | exact wset_lt (by (try simp only [List.length_set]); exact wsome (by assumption)))) rfl (m_isLeaper hm hlp _) rfl (Nat.le_of_ble_eq_true rfl) (Nat.le_of_ble_eq_true rfl) ?_
  refine j_if_eqB (tgt := 25) iX6_hops_5 (by decide) (fun hno => Bool.noConfusion (hno.symm.trans (show _ = true from by rw [inR_nI (by omega) (by omega)]; exact decide_eq_true hj))) (fun _ => ?_)
  refine j_aload_n iX6_hops_8 rfl ?_
  refine j_iload_n iX6_hops_9 rfl ?_
  refine j_V1R okX6_isCell lk_X6_179 iX6_hops_10 (by omega) (by repeat (first | assumption | refine wset_ne (by decide) ?_ | exact wset_lt (by (try simp only [List.length_set]); exact wsome (by assumption)))) rfl (m_isCell hm hN _) rfl (Nat.le_of_ble_eq_true rfl) (Nat.le_of_ble_eq_true rfl) ?_
  refine j_if_eqB (tgt := 25) iX6_hops_13 (by decide) (fun hno => Bool.noConfusion (hno.symm.trans (show _ = true from by rw [inR_nI (by omega) (by omega)]; exact decide_eq_true ht))) (fun _ => ?_)
  refine j_aload_n iX6_hops_16 rfl ?_
  refine j_iload_n iX6_hops_17 rfl ?_
  refine j_iload_n iX6_hops_18 rfl ?_
  refine j_V2R okX6_hopsNow lk_X6_194 iX6_hops_19 (by omega) (by repeat (first | assumption | refine wset_ne (by decide) ?_ | exact wset_lt (by (try simp only [List.length_set]); exact wsome (by assumption)))) rfl (m_hopsNow hm h34 h35 hN hfr hlp hks hst j t (by omega) (by omega)) rfl (Nat.le_of_ble_eq_true rfl) (Nat.le_of_ble_eq_true rfl) ?_
  refine j_goto (tgt := 27) iX6_hops_22 (by decide) ?_
  refine j_iret iX6_hops_27 rfl (by first | rfl | exact nar_bI _ | exact nar_bP) (⟨rfl, rfl⟩)
theorem m_peaceSet (hm : w[33]? = some (oM bd R C fr lp lps sn sz wh nc nf nl tl sd ik kb kf kl kn hh)) (hN : R * C ≤ 12) (hfr : fr < 4096) (k : Nat) (hk : k < 5) : JR 4 mX6_peaceSet [.ref 33, .int (nI k)] w (.int (nI (psF (fanF C (R * C) k) fr))) w := by
  have L : ∀ (n S b : Nat), S + n = fr + 1 → b < 4096 → J 4 mX6_peaceSet 4 [.ref 33, .int (nI k), .int (nI b), .int (nI S), .null] [] w (fun v u => v = some (.int (nI (fold (psStep (fanF C (R * C) k) fr) n S b))) ∧ u = w) := by
    intro n
    induction n with
    | zero =>
      intro S b hS hb
      refine j_iload_n iX6_peaceSet_4 rfl ?_
      refine j_aload_n iX6_peaceSet_5 rfl ?_
      refine j_get fk_X6_116 iX6_peaceSet_6 (by repeat (first | assumption | refine wset_ne (by decide) ?_ | exact wset_lt (by (try simp only [List.length_set]); exact wsome (by assumption)))) (by rfl) ?_
      refine j_icmp_gtN (tgt := 69) iX6_peaceSet_9 (by decide) (by omega) (by omega) (fun _ => ?_) (fun hno => by exfalso; omega)
      refine j_iload_n iX6_peaceSet_69 rfl ?_
      refine j_iret iX6_peaceSet_70 rfl (by first | rfl | exact nar_bI _ | exact nar_bP) (⟨rfl, rfl⟩)
    | succ n ih =>
      intro S b hS hb
      have hS2 : S < 4096 := by omega
      have ha : ad S fr < 4096 := ad_b hS2
      have p1 := pop_le S
      have p2 := pop_le b
      have hq : spread (fanF C (R * C) k) S &&& fr &&& S < 4096 := and_bR hS2
      have K : ∀ q : Bool, q = decide (ad S fr = 0 ∧ pop b < pop S) → J 4 mX6_peaceSet 39 [.ref 33, .int (nI k), .int (nI b), .int (nI S), .null] [.int (bI q)] w (fun v u => v = some (.int (nI (fold (psStep (fanF C (R * C) k) fr) (n + 1) S b))) ∧ u = w) := by
        intro q hq2
        refine j_istore iX6_peaceSet_39 (by decide) rfl ?_
        dsimp only [List.set]
        refine j_iload iX6_peaceSet_41 rfl ?_
        refine j_if_eqB (tgt := 61) iX6_peaceSet_43 (by decide) (fun h43 => ?_) (fun h43 => ?_)
        · refine j_iload_n iX6_peaceSet_61 rfl ?_
          refine j_istore_n iX6_peaceSet_62 (by decide) rfl ?_
          dsimp only [List.set]
          refine j_iincN iX6_peaceSet_63 rfl (by decide) rfl ?_
          dsimp only [List.set]
          refine j_goto (tgt := 4) iX6_peaceSet_66 (by decide) ?_
          first | exact J.fg (by have e := ih (S + 1) b (by omega) hb; simp only [fold, psStep]; rw [if_neg (fun z => by rw [h43] at hq2; exact absurd (And.intro z.1 z.2.1) (of_decide_eq_false hq2.symm))]; exact e) (by first | (simp [LF]; done) | (simp [LF, bI]; done)) | exact J.fg (by have e := ih (S + 1) b (by omega) hb; simp only [fold, psStep]; rw [if_neg (fun z => h54 z.2.2)]; exact e) (by first | (simp [LF]; done) | (simp [LF, bI]; done)) | exact J.fg (by have e := ih (S + 1) S (by omega) hS2; rw [h43] at hq2; have d := of_decide_eq_true hq2.symm; simp only [fold, psStep]; rw [if_pos ⟨d.1, d.2, h54⟩]; exact e) (by first | (simp [LF]; done) | (simp [LF, bI]; done))
        · refine j_aload_n iX6_peaceSet_46 rfl ?_
          refine j_iload_n iX6_peaceSet_47 rfl ?_
          refine j_iload_n iX6_peaceSet_48 rfl ?_
          refine j_V2R okX6_aroundAll lk_X6_188 iX6_peaceSet_49 (by omega) (by repeat (first | assumption | refine wset_ne (by decide) ?_ | exact wset_lt (by (try simp only [List.length_set]); exact wsome (by assumption)))) rfl (m_aroundAll hm hN hfr k S hk (by omega)) rfl (Nat.le_of_ble_eq_true rfl) (Nat.le_of_ble_eq_true rfl) ?_
          refine j_iload_n iX6_peaceSet_52 rfl ?_
          refine j_iandN iX6_peaceSet_53 ?_
          refine j_if_neN (tgt := 61) iX6_peaceSet_54 (by decide) (by omega) (fun h54 => ?_) (fun h54 => ?_)
          · refine j_iload_n iX6_peaceSet_61 rfl ?_
            refine j_istore_n iX6_peaceSet_62 (by decide) rfl ?_
            dsimp only [List.set]
            refine j_iincN iX6_peaceSet_63 rfl (by decide) rfl ?_
            dsimp only [List.set]
            refine j_goto (tgt := 4) iX6_peaceSet_66 (by decide) ?_
            first | exact J.fg (by have e := ih (S + 1) b (by omega) hb; simp only [fold, psStep]; rw [if_neg (fun z => by rw [h43] at hq2; exact absurd (And.intro z.1 z.2.1) (of_decide_eq_false hq2.symm))]; exact e) (by first | (simp [LF]; done) | (simp [LF, bI]; done)) | exact J.fg (by have e := ih (S + 1) b (by omega) hb; simp only [fold, psStep]; rw [if_neg (fun z => h54 z.2.2)]; exact e) (by first | (simp [LF]; done) | (simp [LF, bI]; done)) | exact J.fg (by have e := ih (S + 1) S (by omega) hS2; rw [h43] at hq2; have d := of_decide_eq_true hq2.symm; simp only [fold, psStep]; rw [if_pos ⟨d.1, d.2, h54⟩]; exact e) (by first | (simp [LF]; done) | (simp [LF, bI]; done))
          · refine j_iload_n iX6_peaceSet_57 rfl ?_
            refine j_goto (tgt := 62) iX6_peaceSet_58 (by decide) ?_
            refine j_istore_n iX6_peaceSet_62 (by decide) rfl ?_
            dsimp only [List.set]
            refine j_iincN iX6_peaceSet_63 rfl (by decide) rfl ?_
            dsimp only [List.set]
            refine j_goto (tgt := 4) iX6_peaceSet_66 (by decide) ?_
            first | exact J.fg (by have e := ih (S + 1) b (by omega) hb; simp only [fold, psStep]; rw [if_neg (fun z => by rw [h43] at hq2; exact absurd (And.intro z.1 z.2.1) (of_decide_eq_false hq2.symm))]; exact e) (by first | (simp [LF]; done) | (simp [LF, bI]; done)) | exact J.fg (by have e := ih (S + 1) b (by omega) hb; simp only [fold, psStep]; rw [if_neg (fun z => h54 z.2.2)]; exact e) (by first | (simp [LF]; done) | (simp [LF, bI]; done)) | exact J.fg (by have e := ih (S + 1) S (by omega) hS2; rw [h43] at hq2; have d := of_decide_eq_true hq2.symm; simp only [fold, psStep]; rw [if_pos ⟨d.1, d.2, h54⟩]; exact e) (by first | (simp [LF]; done) | (simp [LF, bI]; done))
      refine j_iload_n iX6_peaceSet_4 rfl ?_
      refine j_aload_n iX6_peaceSet_5 rfl ?_
      refine j_get fk_X6_116 iX6_peaceSet_6 (by repeat (first | assumption | refine wset_ne (by decide) ?_ | exact wset_lt (by (try simp only [List.length_set]); exact wsome (by assumption)))) (by rfl) ?_
      refine j_icmp_gtN (tgt := 69) iX6_peaceSet_9 (by decide) (by omega) (by omega) (fun hno => by exfalso; omega) (fun _ => ?_)
      refine j_iload_n iX6_peaceSet_12 rfl ?_
      refine j_aload_n iX6_peaceSet_13 rfl ?_
      refine j_get fk_X6_116 iX6_peaceSet_14 (by repeat (first | assumption | refine wset_ne (by decide) ?_ | exact wset_lt (by (try simp only [List.length_set]); exact wsome (by assumption)))) (by rfl) ?_
      refine j_iconst (v := (-1)) iX6_peaceSet_17 (by decide) ?_
      refine j_ixor iX6_peaceSet_18 ?_
      refine j_iandnN iX6_peaceSet_19 ?_
      refine j_if_neN (tgt := 38) iX6_peaceSet_20 (by decide) (by omega) (fun h20 => ?_) (fun h20 => ?_)
      · refine j_iconst (v := nI 0) iX6_peaceSet_38 (by decide) ?_
        first | exact K true (by rw [decide_eq_true (And.intro h20 h31)]) | exact K false (by rw [decide_eq_false (fun z : ad S fr = 0 ∧ pop b < pop S => h20 z.1)]) | exact K false (by rw [decide_eq_false (fun z : ad S fr = 0 ∧ pop b < pop S => absurd z.2 (Nat.not_lt.mpr h31))])
      · refine j_iload_n iX6_peaceSet_23 rfl ?_
        refine j_S1R okX6_size lk_X6_185 iX6_peaceSet_24 (by omega) (m_size S (by omega)) rfl (Nat.le_of_ble_eq_true rfl) (Nat.le_of_ble_eq_true rfl) ?_
        refine j_iload_n iX6_peaceSet_27 rfl ?_
        refine j_S1R okX6_size lk_X6_185 iX6_peaceSet_28 (by omega) (m_size b (by omega)) rfl (Nat.le_of_ble_eq_true rfl) (Nat.le_of_ble_eq_true rfl) ?_
        refine j_icmp_leN (tgt := 38) iX6_peaceSet_31 (by decide) (by omega) (by omega) (fun h31 => ?_) (fun h31 => ?_)
        · refine j_iconst (v := nI 0) iX6_peaceSet_38 (by decide) ?_
          first | exact K true (by rw [decide_eq_true (And.intro h20 h31)]) | exact K false (by rw [decide_eq_false (fun z : ad S fr = 0 ∧ pop b < pop S => h20 z.1)]) | exact K false (by rw [decide_eq_false (fun z : ad S fr = 0 ∧ pop b < pop S => absurd z.2 (Nat.not_lt.mpr h31))])
        · refine j_iconst (v := nI 1) iX6_peaceSet_34 (by decide) ?_
          refine j_goto (tgt := 39) iX6_peaceSet_35 (by decide) ?_
          first | exact K true (by rw [decide_eq_true (And.intro h20 h31)]) | exact K false (by rw [decide_eq_false (fun z : ad S fr = 0 ∧ pop b < pop S => h20 z.1)]) | exact K false (by rw [decide_eq_false (fun z : ad S fr = 0 ∧ pop b < pop S => absurd z.2 (Nat.not_lt.mpr h31))])
  refine j_start (ls := [.ref 33, .int (nI k), .null, .null, .null]) rfl ?_
  refine j_iconst (v := nI 0) iX6_peaceSet_0 (by decide) ?_
  refine j_istore_n iX6_peaceSet_1 (by decide) rfl ?_
  dsimp only [List.set]
  refine j_iconst (v := nI 0) iX6_peaceSet_2 (by decide) ?_
  refine j_istore_n iX6_peaceSet_3 (by decide) rfl ?_
  dsimp only [List.set]
  exact L (fr + 1) 0 0 (by omega) (by decide)
theorem m_guardSet (hm : w[33]? = some (oM bd R C fr lp lps sn sz wh nc nf nl tl sd ik kb kf kl kn hh)) (hN : R * C ≤ 12) (hfr : fr < 4096) (k : Nat) (hk : k < 5) : JR 4 mX6_guardSet [.ref 33, .int (nI k)] w (.int (nI (gsF (fanF C (R * C) k) fr))) w := by
  have L : ∀ (n S b : Nat), S + n = fr + 1 → b < 4096 → J 4 mX6_guardSet 7 [.ref 33, .int (nI k), .int (nI b), .int (nI S), .null] [] w (fun v u => v = some (.int (nI (fold (gsStep (fanF C (R * C) k) fr) n S b))) ∧ u = w) := by
    intro n
    induction n with
    | zero =>
      intro S b hS hb
      refine j_iload_n iX6_guardSet_7 rfl ?_
      refine j_aload_n iX6_guardSet_8 rfl ?_
      refine j_get fk_X6_116 iX6_guardSet_9 (by repeat (first | assumption | refine wset_ne (by decide) ?_ | exact wset_lt (by (try simp only [List.length_set]); exact wsome (by assumption)))) (by rfl) ?_
      refine j_icmp_gtN (tgt := 76) iX6_guardSet_12 (by decide) (by omega) (by omega) (fun _ => ?_) (fun hno => by exfalso; omega)
      refine j_iload_n iX6_guardSet_76 rfl ?_
      refine j_iret iX6_guardSet_77 rfl (by first | rfl | exact nar_bI _ | exact nar_bP) (⟨rfl, rfl⟩)
    | succ n ih =>
      intro S b hS hb
      have hS2 : S < 4096 := by omega
      have ha : ad S fr < 4096 := ad_b hS2
      have p1 := pop_le S
      have p2 := pop_le b
      have hq : spread (fanF C (R * C) k) S &&& fr ||| S < 4096 := or_b (and_bR hfr) hS2
      have K : ∀ q : Bool, q = decide (ad S fr = 0 ∧ pop S < pop b) → J 4 mX6_guardSet 42 [.ref 33, .int (nI k), .int (nI b), .int (nI S), .null] [.int (bI q)] w (fun v u => v = some (.int (nI (fold (gsStep (fanF C (R * C) k) fr) (n + 1) S b))) ∧ u = w) := by
        intro q hq2
        refine j_istore iX6_guardSet_42 (by decide) rfl ?_
        dsimp only [List.set]
        refine j_iload iX6_guardSet_44 rfl ?_
        refine j_if_eqB (tgt := 68) iX6_guardSet_46 (by decide) (fun h46 => ?_) (fun h46 => ?_)
        · refine j_iload_n iX6_guardSet_68 rfl ?_
          refine j_istore_n iX6_guardSet_69 (by decide) rfl ?_
          dsimp only [List.set]
          refine j_iincN iX6_guardSet_70 rfl (by decide) rfl ?_
          dsimp only [List.set]
          refine j_goto (tgt := 7) iX6_guardSet_73 (by decide) ?_
          first | exact J.fg (by have e := ih (S + 1) b (by omega) hb; simp only [fold, gsStep]; rw [if_neg (fun z => by rw [h46] at hq2; exact absurd (And.intro z.1 z.2.1) (of_decide_eq_false hq2.symm))]; exact e) (by first | (simp [LF]; done) | (simp [LF, bI]; done)) | exact J.fg (by have e := ih (S + 1) b (by omega) hb; simp only [fold, gsStep]; rw [if_neg (fun z => h61 z.2.2)]; exact e) (by first | (simp [LF]; done) | (simp [LF, bI]; done)) | exact J.fg (by have e := ih (S + 1) S (by omega) hS2; rw [h46] at hq2; have d := of_decide_eq_true hq2.symm; simp only [fold, gsStep]; rw [if_pos ⟨d.1, d.2, h61⟩]; exact e) (by first | (simp [LF]; done) | (simp [LF, bI]; done))
        · refine j_aload_n iX6_guardSet_49 rfl ?_
          refine j_iload_n iX6_guardSet_50 rfl ?_
          refine j_iload_n iX6_guardSet_51 rfl ?_
          refine j_V2R okX6_aroundAll lk_X6_188 iX6_guardSet_52 (by omega) (by repeat (first | assumption | refine wset_ne (by decide) ?_ | exact wset_lt (by (try simp only [List.length_set]); exact wsome (by assumption)))) rfl (m_aroundAll hm hN hfr k S hk (by omega)) rfl (Nat.le_of_ble_eq_true rfl) (Nat.le_of_ble_eq_true rfl) ?_
          refine j_iload_n iX6_guardSet_55 rfl ?_
          refine j_iorN iX6_guardSet_56  ?_
          refine j_aload_n iX6_guardSet_57 rfl ?_
          refine j_get fk_X6_116 iX6_guardSet_58 (by repeat (first | assumption | refine wset_ne (by decide) ?_ | exact wset_lt (by (try simp only [List.length_set]); exact wsome (by assumption)))) (by rfl) ?_
          refine j_icmp_neN (tgt := 68) iX6_guardSet_61 (by decide) (by omega) (by omega) (fun h61 => ?_) (fun h61 => ?_)
          · refine j_iload_n iX6_guardSet_68 rfl ?_
            refine j_istore_n iX6_guardSet_69 (by decide) rfl ?_
            dsimp only [List.set]
            refine j_iincN iX6_guardSet_70 rfl (by decide) rfl ?_
            dsimp only [List.set]
            refine j_goto (tgt := 7) iX6_guardSet_73 (by decide) ?_
            first | exact J.fg (by have e := ih (S + 1) b (by omega) hb; simp only [fold, gsStep]; rw [if_neg (fun z => by rw [h46] at hq2; exact absurd (And.intro z.1 z.2.1) (of_decide_eq_false hq2.symm))]; exact e) (by first | (simp [LF]; done) | (simp [LF, bI]; done)) | exact J.fg (by have e := ih (S + 1) b (by omega) hb; simp only [fold, gsStep]; rw [if_neg (fun z => h61 z.2.2)]; exact e) (by first | (simp [LF]; done) | (simp [LF, bI]; done)) | exact J.fg (by have e := ih (S + 1) S (by omega) hS2; rw [h46] at hq2; have d := of_decide_eq_true hq2.symm; simp only [fold, gsStep]; rw [if_pos ⟨d.1, d.2, h61⟩]; exact e) (by first | (simp [LF]; done) | (simp [LF, bI]; done))
          · refine j_iload_n iX6_guardSet_64 rfl ?_
            refine j_goto (tgt := 69) iX6_guardSet_65 (by decide) ?_
            refine j_istore_n iX6_guardSet_69 (by decide) rfl ?_
            dsimp only [List.set]
            refine j_iincN iX6_guardSet_70 rfl (by decide) rfl ?_
            dsimp only [List.set]
            refine j_goto (tgt := 7) iX6_guardSet_73 (by decide) ?_
            first | exact J.fg (by have e := ih (S + 1) b (by omega) hb; simp only [fold, gsStep]; rw [if_neg (fun z => by rw [h46] at hq2; exact absurd (And.intro z.1 z.2.1) (of_decide_eq_false hq2.symm))]; exact e) (by first | (simp [LF]; done) | (simp [LF, bI]; done)) | exact J.fg (by have e := ih (S + 1) b (by omega) hb; simp only [fold, gsStep]; rw [if_neg (fun z => h61 z.2.2)]; exact e) (by first | (simp [LF]; done) | (simp [LF, bI]; done)) | exact J.fg (by have e := ih (S + 1) S (by omega) hS2; rw [h46] at hq2; have d := of_decide_eq_true hq2.symm; simp only [fold, gsStep]; rw [if_pos ⟨d.1, d.2, h61⟩]; exact e) (by first | (simp [LF]; done) | (simp [LF, bI]; done))
      refine j_iload_n iX6_guardSet_7 rfl ?_
      refine j_aload_n iX6_guardSet_8 rfl ?_
      refine j_get fk_X6_116 iX6_guardSet_9 (by repeat (first | assumption | refine wset_ne (by decide) ?_ | exact wset_lt (by (try simp only [List.length_set]); exact wsome (by assumption)))) (by rfl) ?_
      refine j_icmp_gtN (tgt := 76) iX6_guardSet_12 (by decide) (by omega) (by omega) (fun hno => by exfalso; omega) (fun _ => ?_)
      refine j_iload_n iX6_guardSet_15 rfl ?_
      refine j_aload_n iX6_guardSet_16 rfl ?_
      refine j_get fk_X6_116 iX6_guardSet_17 (by repeat (first | assumption | refine wset_ne (by decide) ?_ | exact wset_lt (by (try simp only [List.length_set]); exact wsome (by assumption)))) (by rfl) ?_
      refine j_iconst (v := (-1)) iX6_guardSet_20 (by decide) ?_
      refine j_ixor iX6_guardSet_21 ?_
      refine j_iandnN iX6_guardSet_22 ?_
      refine j_if_neN (tgt := 41) iX6_guardSet_23 (by decide) (by omega) (fun h23 => ?_) (fun h23 => ?_)
      · refine j_iconst (v := nI 0) iX6_guardSet_41 (by decide) ?_
        first | exact K true (by rw [decide_eq_true (And.intro h23 h34)]) | exact K false (by rw [decide_eq_false (fun z : ad S fr = 0 ∧ pop S < pop b => h23 z.1)]) | exact K false (by rw [decide_eq_false (fun z : ad S fr = 0 ∧ pop S < pop b => absurd z.2 (Nat.not_lt.mpr h34))])
      · refine j_iload_n iX6_guardSet_26 rfl ?_
        refine j_S1R okX6_size lk_X6_185 iX6_guardSet_27 (by omega) (m_size S (by omega)) rfl (Nat.le_of_ble_eq_true rfl) (Nat.le_of_ble_eq_true rfl) ?_
        refine j_iload_n iX6_guardSet_30 rfl ?_
        refine j_S1R okX6_size lk_X6_185 iX6_guardSet_31 (by omega) (m_size b (by omega)) rfl (Nat.le_of_ble_eq_true rfl) (Nat.le_of_ble_eq_true rfl) ?_
        refine j_icmp_geN (tgt := 41) iX6_guardSet_34 (by decide) (by omega) (by omega) (fun h34 => ?_) (fun h34 => ?_)
        · refine j_iconst (v := nI 0) iX6_guardSet_41 (by decide) ?_
          first | exact K true (by rw [decide_eq_true (And.intro h23 h34)]) | exact K false (by rw [decide_eq_false (fun z : ad S fr = 0 ∧ pop S < pop b => h23 z.1)]) | exact K false (by rw [decide_eq_false (fun z : ad S fr = 0 ∧ pop S < pop b => absurd z.2 (Nat.not_lt.mpr h34))])
        · refine j_iconst (v := nI 1) iX6_guardSet_37 (by decide) ?_
          refine j_goto (tgt := 42) iX6_guardSet_38 (by decide) ?_
          first | exact K true (by rw [decide_eq_true (And.intro h23 h34)]) | exact K false (by rw [decide_eq_false (fun z : ad S fr = 0 ∧ pop S < pop b => h23 z.1)]) | exact K false (by rw [decide_eq_false (fun z : ad S fr = 0 ∧ pop S < pop b => absurd z.2 (Nat.not_lt.mpr h34))])
  refine j_start (ls := [.ref 33, .int (nI k), .null, .null, .null]) rfl ?_
  refine j_aload_n iX6_guardSet_0 rfl ?_
  refine j_get fk_X6_116 iX6_guardSet_1 (by repeat (first | assumption | refine wset_ne (by decide) ?_ | exact wset_lt (by (try simp only [List.length_set]); exact wsome (by assumption)))) (by rfl) ?_
  refine j_istore_n iX6_guardSet_4 (by decide) rfl ?_
  dsimp only [List.set]
  refine j_iconst (v := nI 0) iX6_guardSet_5 (by decide) ?_
  refine j_istore_n iX6_guardSet_6 (by decide) rfl ?_
  dsimp only [List.set]
  exact L (fr + 1) 0 fr (by omega) hfr
theorem m_partOf (hm : w[33]? = some (oM bd R C fr lp lps sn sz wh nc nf nl tl sd ik kb kf kl kn hh)) (hN : R * C ≤ 12) (hfr : fr < 4096) (k c : Nat) (hk : k < 5) (hc : c < 12) : JR 4 mX6_partOf [.ref 33, .int (nI k), .int (nI c)] w (.int (nI (partF (fanF C (R * C) k) fr (2 ^ c)))) w := by
  have L : ∀ (n S : Nat), 13 ≤ pop S + n → S < 4096 → J 4 mX6_partOf 14 [.ref 33, .int (nI k), .int (nI c), .int (nI S), .int (nI (S ||| (spread (fanF C (R * C) k) S &&& fr)))] [] w (fun v u => v = some (.int (nI (partFrom (fanF C (R * C) k) fr n S))) ∧ u = w) := by
    intro n
    induction n with
    | zero =>
      intro S h1 h2
      have := pop_le S
      omega
    | succ n ih =>
      intro S h1 h2
      have hmo : S ||| (spread (fanF C (R * C) k) S &&& fr) < 4096 := or_b h2 (and_bR hfr)
      refine j_iload iX6_partOf_14 rfl ?_
      refine j_iload_n iX6_partOf_16 rfl ?_
      refine j_icmp_eqN (tgt := 36) iX6_partOf_17 (by decide) (by omega) (by omega) (fun h17 => ?_) (fun h17 => ?_)
      · refine j_iload_n iX6_partOf_36 rfl ?_
        refine j_iret iX6_partOf_37 rfl (by first | rfl | exact nar_bI _ | exact nar_bP) (⟨by unfold partFrom; rw [if_pos h17], rfl⟩)
      · refine j_iload iX6_partOf_20 rfl ?_
        refine j_istore_n iX6_partOf_22 (by decide) rfl ?_
        dsimp only [List.set]
        refine j_iload_n iX6_partOf_23 rfl ?_
        refine j_aload_n iX6_partOf_24 rfl ?_
        refine j_iload_n iX6_partOf_25 rfl ?_
        refine j_iload_n iX6_partOf_26 rfl ?_
        refine j_V2R okX6_aroundAll lk_X6_188 iX6_partOf_27 (by omega) (by repeat (first | assumption | refine wset_ne (by decide) ?_ | exact wset_lt (by (try simp only [List.length_set]); exact wsome (by assumption)))) rfl (m_aroundAll hm hN hfr k _ hk (by omega)) rfl (Nat.le_of_ble_eq_true rfl) (Nat.le_of_ble_eq_true rfl) ?_
        refine j_iorN iX6_partOf_30  ?_
        refine j_istore iX6_partOf_31 (by decide) rfl ?_
        dsimp only [List.set]
        refine j_goto (tgt := 14) iX6_partOf_33 (by decide) ?_
        exact (by have hg := pop_grow hmo h17; unfold partFrom; rw [if_neg h17]; exact ih _ (by omega) hmo)
  refine j_start (ls := [.ref 33, .int (nI k), .int (nI c), .null, .null]) rfl ?_
  have hp := pw_b hc
  refine j_iconst (v := nI 1) iX6_partOf_0 (by decide) ?_
  refine j_iload_n iX6_partOf_1 rfl ?_
  refine j_ishlN iX6_partOf_2 (by omega) ?_
  refine j_istore_n iX6_partOf_3 (by decide) rfl ?_
  dsimp only [List.set]
  refine j_iload_n iX6_partOf_4 rfl ?_
  refine j_aload_n iX6_partOf_5 rfl ?_
  refine j_iload_n iX6_partOf_6 rfl ?_
  refine j_iload_n iX6_partOf_7 rfl ?_
  refine j_V2R okX6_aroundAll lk_X6_188 iX6_partOf_8 (by omega) (by repeat (first | assumption | refine wset_ne (by decide) ?_ | exact wset_lt (by (try simp only [List.length_set]); exact wsome (by assumption)))) rfl (m_aroundAll hm hN hfr k _ hk (by omega)) rfl (Nat.le_of_ble_eq_true rfl) (Nat.le_of_ble_eq_true rfl) ?_
  refine j_iorN iX6_partOf_11  ?_
  refine j_istore iX6_partOf_12 (by decide) rfl ?_
  dsimp only [List.set]
  exact L 12 (2 ^ c) (by rw [pop_pw hc]; omega) hp
theorem m_partsNow (hm : w[33]? = some (oM bd R C fr lp lps sn sz wh nc nf nl tl sd ik kb kf kl kn hh)) (hN : R * C ≤ 12) (hfr : fr < 4096) (k : Nat) (hk : k < 5) : JR 5 mX6_partsNow [.ref 33, .int (nI k)] w (.int (nI (pnF (fanF C (R * C) k) (R * C) fr))) w := by
  have L : ∀ (n c : Nat) (p : Nat × Nat), c + n = R * C → p.1 < 4096 → J 5 mX6_partsNow 10 [.ref 33, .int (nI k), .int (nI p.2), .int (nI p.1), .int (nI c)] [] w (fun v u => v = some (.int (nI (fold (pnStep (fanF C (R * C) k) fr) n c p).2)) ∧ u = w) := by
    intro n
    induction n with
    | zero =>
      intro c p hc hp
      refine j_iload iX6_partsNow_10 rfl ?_
      refine j_aload_n iX6_partsNow_12 rfl ?_
      refine j_V0R okX6_cells lk_X6_131 iX6_partsNow_13 (by omega) (by repeat (first | assumption | refine wset_ne (by decide) ?_ | exact wset_lt (by (try simp only [List.length_set]); exact wsome (by assumption)))) rfl (m_cells hm) rfl (Nat.le_of_ble_eq_true rfl) (Nat.le_of_ble_eq_true rfl) ?_
      refine j_icmp_geN (tgt := 49) iX6_partsNow_16 (by decide) (by omega) (by omega) (fun _ => ?_) (fun hno => by exfalso; omega)
      refine j_iload_n iX6_partsNow_49 rfl ?_
      refine j_iret iX6_partsNow_50 rfl (by first | rfl | exact nar_bI _ | exact nar_bP) (⟨rfl, rfl⟩)
    | succ n ih =>
      intro c p hc hp
      refine j_iload iX6_partsNow_10 rfl ?_
      refine j_aload_n iX6_partsNow_12 rfl ?_
      refine j_V0R okX6_cells lk_X6_131 iX6_partsNow_13 (by omega) (by repeat (first | assumption | refine wset_ne (by decide) ?_ | exact wset_lt (by (try simp only [List.length_set]); exact wsome (by assumption)))) rfl (m_cells hm) rfl (Nat.le_of_ble_eq_true rfl) (Nat.le_of_ble_eq_true rfl) ?_
      refine j_icmp_geN (tgt := 49) iX6_partsNow_16 (by decide) (by omega) (by omega) (fun hno => by exfalso; omega) (fun _ => ?_)
      refine j_iload_n iX6_partsNow_19 rfl ?_
      refine j_iload iX6_partsNow_20 rfl ?_
      refine j_S2R okX6_isIn lk_X6_92 iX6_partsNow_22 (by omega) (m_isIn p.1 c (by omega) (by omega)) rfl (Nat.le_of_ble_eq_true rfl) (Nat.le_of_ble_eq_true rfl) ?_
      refine j_if_eqB (tgt := 43) iX6_partsNow_25 (by decide) (fun h25 => ?_) (fun h25 => ?_)
      · refine j_iincN iX6_partsNow_43 rfl (by decide) rfl ?_
        dsimp only [List.set]
        refine j_goto (tgt := 10) iX6_partsNow_46 (by decide) ?_
        first | exact (by have e := ih (c + 1) p (by omega) hp; simp only [fold, pnStep, if_neg (nt h25)]; exact e) | exact (by have e := ih (c + 1) (ad p.1 (partF (fanF C (R * C) k) fr (2 ^ c)), p.2 + 1) (by omega) (ad_b hp); simp only [fold, pnStep, if_pos h25]; exact e)
      · refine j_iload_n iX6_partsNow_28 rfl ?_
        refine j_aload_n iX6_partsNow_29 rfl ?_
        refine j_iload_n iX6_partsNow_30 rfl ?_
        refine j_iload iX6_partsNow_31 rfl ?_
        refine j_V2R okX6_partOf lk_X6_237 iX6_partsNow_33 (by omega) (by repeat (first | assumption | refine wset_ne (by decide) ?_ | exact wset_lt (by (try simp only [List.length_set]); exact wsome (by assumption)))) rfl (m_partOf hm hN hfr k c hk (by omega)) rfl (Nat.le_of_ble_eq_true rfl) (Nat.le_of_ble_eq_true rfl) ?_
        refine j_iconst (v := (-1)) iX6_partsNow_36 (by decide) ?_
        refine j_ixor iX6_partsNow_37 ?_
        refine j_iandnN iX6_partsNow_38 ?_
        refine j_istore_n iX6_partsNow_39 (by decide) rfl ?_
        dsimp only [List.set]
        refine j_iincN iX6_partsNow_40 rfl (by decide) rfl ?_
        dsimp only [List.set]
        refine j_iincN iX6_partsNow_43 rfl (by decide) rfl ?_
        dsimp only [List.set]
        refine j_goto (tgt := 10) iX6_partsNow_46 (by decide) ?_
        first | exact (by have e := ih (c + 1) p (by omega) hp; simp only [fold, pnStep, if_neg (nt h25)]; exact e) | exact (by have e := ih (c + 1) (ad p.1 (partF (fanF C (R * C) k) fr (2 ^ c)), p.2 + 1) (by omega) (ad_b hp); simp only [fold, pnStep, if_pos h25]; exact e)
  refine j_start (ls := [.ref 33, .int (nI k), .null, .null, .null]) rfl ?_
  refine j_iconst (v := nI 0) iX6_partsNow_0 (by decide) ?_
  refine j_istore_n iX6_partsNow_1 (by decide) rfl ?_
  dsimp only [List.set]
  refine j_aload_n iX6_partsNow_2 rfl ?_
  refine j_get fk_X6_116 iX6_partsNow_3 (by repeat (first | assumption | refine wset_ne (by decide) ?_ | exact wset_lt (by (try simp only [List.length_set]); exact wsome (by assumption)))) (by rfl) ?_
  refine j_istore_n iX6_partsNow_6 (by decide) rfl ?_
  dsimp only [List.set]
  refine j_iconst (v := nI 0) iX6_partsNow_7 (by decide) ?_
  refine j_istore iX6_partsNow_8 (by decide) rfl ?_
  dsimp only [List.set]
  exact L (R * C) 0 (fr, 0) (by omega) hfr
theorem m_areShades (hm : w[33]? = some (oM bd R C fr lp lps sn sz wh nc nf nl tl sd ik kb kf kl kn hh)) (hN : R * C ≤ 12) (hfr : fr < 4096) (k : Nat) (hk : k < 5) : JR 4 mX6_areShades [.ref 33, .int (nI k)] w (.int (bI (asF (fanF C (R * C) k) (R * C) fr))) w := by
  have hfb : ∀ i, fanF C (R * C) k i < 4096 := fun i => fanF_b _ _ _ _ hN
  have LI : ∀ (q : Bool) (c : Nat) (Q : Option Value → mW → Prop) (n i : Nat) (p : Nat × Nat), i + n = 12 → p.1 < 4096 → p.2 < 4096 →
      (∀ p' : Nat × Nat, p'.1 < 4096 → p'.2 < 4096 → p' = shFrom (fanF C (R * C) k) fr n p → J 4 mX6_areShades 75 [.ref 33, .int (nI k), .int (bI q), .int (nI c), .int (nI p'.1), .int (nI p'.2), .null] [] w Q) →
      J 4 mX6_areShades 38 [.ref 33, .int (nI k), .int (bI q), .int (nI c), .int (nI p.1), .int (nI p.2), .int (nI i)] [] w Q := by
    intro q c Q n
    induction n with
    | zero =>
      intro i p hi h1 h2 kk
      refine j_iload iX6_areShades_38 rfl ?_
      refine j_bipush (v := nI 12) iX6_areShades_40 (by decide) ?_
      refine j_icmp_geN (tgt := 75) iX6_areShades_42 (by decide) (by omega) (by omega) (fun _ => ?_) (fun hno => by exfalso; omega)
      exact J.fg (kk p h1 h2 rfl) (by first | (simp [LF]; done) | (simp [LF, bI]; done))
    | succ n ih =>
      intro i p hi h1 h2 kk
      have hd2 : p.2 ||| (spread (fanF C (R * C) k) p.1 &&& fr) < 4096 := or_b h2 (and_bR hfr)
      refine j_iload iX6_areShades_38 rfl ?_
      refine j_bipush (v := nI 12) iX6_areShades_40 (by decide) ?_
      refine j_icmp_geN (tgt := 75) iX6_areShades_42 (by decide) (by omega) (by omega) (fun hno => by exfalso; omega) (fun _ => ?_)
      refine j_iload iX6_areShades_45 rfl ?_
      refine j_aload_n iX6_areShades_47 rfl ?_
      refine j_iload_n iX6_areShades_48 rfl ?_
      refine j_iload iX6_areShades_49 rfl ?_
      refine j_V2R okX6_aroundAll lk_X6_188 iX6_areShades_51 (by omega) (by repeat (first | assumption | refine wset_ne (by decide) ?_ | exact wset_lt (by (try simp only [List.length_set]); exact wsome (by assumption)))) rfl (m_aroundAll hm hN hfr k p.1 hk (by omega)) rfl (Nat.le_of_ble_eq_true rfl) (Nat.le_of_ble_eq_true rfl) ?_
      refine j_iorN iX6_areShades_54  ?_
      refine j_istore iX6_areShades_55 (by decide) rfl ?_
      dsimp only [List.set]
      refine j_iload iX6_areShades_57 rfl ?_
      refine j_aload_n iX6_areShades_59 rfl ?_
      refine j_iload_n iX6_areShades_60 rfl ?_
      refine j_iload iX6_areShades_61 rfl ?_
      refine j_V2R okX6_aroundAll lk_X6_188 iX6_areShades_63 (by omega) (by repeat (first | assumption | refine wset_ne (by decide) ?_ | exact wset_lt (by (try simp only [List.length_set]); exact wsome (by assumption)))) rfl (m_aroundAll hm hN hfr k _ hk (by omega)) rfl (Nat.le_of_ble_eq_true rfl) (Nat.le_of_ble_eq_true rfl) ?_
      refine j_iorN iX6_areShades_66  ?_
      refine j_istore iX6_areShades_67 (by decide) rfl ?_
      dsimp only [List.set]
      refine j_iincN iX6_areShades_69 rfl (by decide) rfl ?_
      dsimp only [List.set]
      refine j_goto (tgt := 38) iX6_areShades_72 (by decide) ?_
      exact ih (i + 1) (shStep (fanF C (R * C) k) fr p) (by omega) (or_b h1 (and_bR hfr)) hd2 kk
  have L : ∀ (n c : Nat) (q : Bool), c + n = R * C → J 4 mX6_areShades 4 [.ref 33, .int (nI k), .int (bI q), .int (nI c), .null, .null, .null] [] w (fun v u => v = some (.int (bI (fold (asStep (fanF C (R * C) k) fr) n c q))) ∧ u = w) := by
    intro n
    induction n with
    | zero =>
      intro c q hc
      refine j_iload_n iX6_areShades_4 rfl ?_
      refine j_aload_n iX6_areShades_5 rfl ?_
      refine j_V0R okX6_cells lk_X6_131 iX6_areShades_6 (by omega) (by repeat (first | assumption | refine wset_ne (by decide) ?_ | exact wset_lt (by (try simp only [List.length_set]); exact wsome (by assumption)))) rfl (m_cells hm) rfl (Nat.le_of_ble_eq_true rfl) (Nat.le_of_ble_eq_true rfl) ?_
      refine j_icmp_geN (tgt := 99) iX6_areShades_9 (by decide) (by omega) (by omega) (fun _ => ?_) (fun hno => by exfalso; omega)
      refine j_iload_n iX6_areShades_99 rfl ?_
      refine j_iret iX6_areShades_100 rfl (by first | rfl | exact nar_bI _ | exact nar_bP) (⟨rfl, rfl⟩)
    | succ n ih =>
      intro c q hc
      have K : ∀ e : Nat, e < 4096 → e = (if fr.testBit c = true then 2 ^ c else 0) → J 4 mX6_areShades 38 [.ref 33, .int (nI k), .int (bI q), .int (nI c), .int (nI e), .int (nI 0), .int (nI 0)] [] w (fun v u => v = some (.int (bI (fold (asStep (fanF C (R * C) k) fr) (n + 1) c q))) ∧ u = w) := by
        intro e he hee
        refine LI q c _ 12 0 (e, 0) rfl he (by decide : 0 < 4096) (fun p' h1 h2 h3 => ?_)
        have h5 : p'.1 &&& p'.2 < 4096 := and_bL h1
        have est : ∀ b : Bool, b = (q && decide (p'.1 &&& p'.2 = 0)) → fold (asStep (fanF C (R * C) k) fr) (n + 1) c q = fold (asStep (fanF C (R * C) k) fr) n (c + 1) b := by
          intro b hb
          simp only [fold]
          rw [hb]
          unfold asStep
          rw [← hee, ← h3]
        refine j_iload_n iX6_areShades_75 rfl ?_
        refine j_if_eqB (tgt := 91) iX6_areShades_76 (by decide) (fun h76 => ?_) (fun h76 => ?_)
        · refine j_iconst (v := nI 0) iX6_areShades_91 (by decide) ?_
          refine j_istore_n iX6_areShades_92 (by decide) rfl ?_
          dsimp only [List.set]
          refine j_iincN iX6_areShades_93 rfl (by decide) rfl ?_
          dsimp only [List.set]
          refine j_goto (tgt := 4) iX6_areShades_96 (by decide) ?_
          first | exact J.fg (by rw [est false (by rw [h76]; rfl)]; exact ih (c + 1) false (by omega)) (by first | (simp [LF]; done) | (simp [LF, bI]; done)) | exact J.fg (by rw [est false (by rw [h76, decide_eq_false h84]; rfl)]; exact ih (c + 1) false (by omega)) (by first | (simp [LF]; done) | (simp [LF, bI]; done)) | exact J.fg (by rw [est true (by rw [h76, decide_eq_true h84]; rfl)]; exact ih (c + 1) true (by omega)) (by first | (simp [LF]; done) | (simp [LF, bI]; done))
        · refine j_iload iX6_areShades_79 rfl ?_
          refine j_iload iX6_areShades_81 rfl ?_
          refine j_iandN iX6_areShades_83 ?_
          refine j_if_neN (tgt := 91) iX6_areShades_84 (by decide) (by omega) (fun h84 => ?_) (fun h84 => ?_)
          · refine j_iconst (v := nI 0) iX6_areShades_91 (by decide) ?_
            refine j_istore_n iX6_areShades_92 (by decide) rfl ?_
            dsimp only [List.set]
            refine j_iincN iX6_areShades_93 rfl (by decide) rfl ?_
            dsimp only [List.set]
            refine j_goto (tgt := 4) iX6_areShades_96 (by decide) ?_
            first | exact J.fg (by rw [est false (by rw [h76]; rfl)]; exact ih (c + 1) false (by omega)) (by first | (simp [LF]; done) | (simp [LF, bI]; done)) | exact J.fg (by rw [est false (by rw [h76, decide_eq_false h84]; rfl)]; exact ih (c + 1) false (by omega)) (by first | (simp [LF]; done) | (simp [LF, bI]; done)) | exact J.fg (by rw [est true (by rw [h76, decide_eq_true h84]; rfl)]; exact ih (c + 1) true (by omega)) (by first | (simp [LF]; done) | (simp [LF, bI]; done))
          · refine j_iconst (v := nI 1) iX6_areShades_87 (by decide) ?_
            refine j_goto (tgt := 92) iX6_areShades_88 (by decide) ?_
            refine j_istore_n iX6_areShades_92 (by decide) rfl ?_
            dsimp only [List.set]
            refine j_iincN iX6_areShades_93 rfl (by decide) rfl ?_
            dsimp only [List.set]
            refine j_goto (tgt := 4) iX6_areShades_96 (by decide) ?_
            first | exact J.fg (by rw [est false (by rw [h76]; rfl)]; exact ih (c + 1) false (by omega)) (by first | (simp [LF]; done) | (simp [LF, bI]; done)) | exact J.fg (by rw [est false (by rw [h76, decide_eq_false h84]; rfl)]; exact ih (c + 1) false (by omega)) (by first | (simp [LF]; done) | (simp [LF, bI]; done)) | exact J.fg (by rw [est true (by rw [h76, decide_eq_true h84]; rfl)]; exact ih (c + 1) true (by omega)) (by first | (simp [LF]; done) | (simp [LF, bI]; done))
      refine j_iload_n iX6_areShades_4 rfl ?_
      refine j_aload_n iX6_areShades_5 rfl ?_
      refine j_V0R okX6_cells lk_X6_131 iX6_areShades_6 (by omega) (by repeat (first | assumption | refine wset_ne (by decide) ?_ | exact wset_lt (by (try simp only [List.length_set]); exact wsome (by assumption)))) rfl (m_cells hm) rfl (Nat.le_of_ble_eq_true rfl) (Nat.le_of_ble_eq_true rfl) ?_
      refine j_icmp_geN (tgt := 99) iX6_areShades_9 (by decide) (by omega) (by omega) (fun hno => by exfalso; omega) (fun _ => ?_)
      refine j_aload_n iX6_areShades_12 rfl ?_
      refine j_get fk_X6_116 iX6_areShades_13 (by repeat (first | assumption | refine wset_ne (by decide) ?_ | exact wset_lt (by (try simp only [List.length_set]); exact wsome (by assumption)))) (by rfl) ?_
      refine j_iload_n iX6_areShades_16 rfl ?_
      refine j_S2R okX6_isIn lk_X6_92 iX6_areShades_17 (by omega) (m_isIn fr c (by omega) (by omega)) rfl (Nat.le_of_ble_eq_true rfl) (Nat.le_of_ble_eq_true rfl) ?_
      refine j_if_eqB (tgt := 29) iX6_areShades_20 (by decide) (fun h20 => ?_) (fun h20 => ?_)
      · refine j_iconst (v := nI 0) iX6_areShades_29 (by decide) ?_
        refine j_istore iX6_areShades_30 (by decide) rfl ?_
        dsimp only [List.set]
        refine j_iconst (v := nI 0) iX6_areShades_32 (by decide) ?_
        refine j_istore iX6_areShades_33 (by decide) rfl ?_
        dsimp only [List.set]
        refine j_iconst (v := nI 0) iX6_areShades_35 (by decide) ?_
        refine j_istore iX6_areShades_36 (by decide) rfl ?_
        dsimp only [List.set]
        first | exact K 0 (by decide) (by rw [if_neg (nt h20)]) | exact K (2 ^ c) (pw_b (by omega)) (by rw [if_pos h20])
      · refine j_iconst (v := nI 1) iX6_areShades_23 (by decide) ?_
        refine j_iload_n iX6_areShades_24 rfl ?_
        refine j_ishlN iX6_areShades_25 (by omega) ?_
        refine j_goto (tgt := 30) iX6_areShades_26 (by decide) ?_
        refine j_istore iX6_areShades_30 (by decide) rfl ?_
        dsimp only [List.set]
        refine j_iconst (v := nI 0) iX6_areShades_32 (by decide) ?_
        refine j_istore iX6_areShades_33 (by decide) rfl ?_
        dsimp only [List.set]
        refine j_iconst (v := nI 0) iX6_areShades_35 (by decide) ?_
        refine j_istore iX6_areShades_36 (by decide) rfl ?_
        dsimp only [List.set]
        first | exact K 0 (by decide) (by rw [if_neg (nt h20)]) | exact K (2 ^ c) (pw_b (by omega)) (by rw [if_pos h20])
  refine j_start (ls := [.ref 33, .int (nI k), .null, .null, .null, .null, .null]) rfl ?_
  refine j_iconst (v := nI 1) iX6_areShades_0 (by decide) ?_
  refine j_istore_n iX6_areShades_1 (by decide) rfl ?_
  dsimp only [List.set]
  refine j_iconst (v := nI 0) iX6_areShades_2 (by decide) ?_
  refine j_istore_n iX6_areShades_3 (by decide) rfl ?_
  dsimp only [List.set]
  exact L (R * C) 0 true (by omega)
/-! of a kind: the public ones -/
theorem m_peace_o (hm : w[33]? = some (oM bd R C fr lp lps sn sz wh nc nf nl tl sd ik kb kf kl kn hh)) (x y : Int32) (hx : inR x 5 = false ∨ inR y 2 = false) : JR 6 mX6_peace [.ref 33, .int x, .int y] w (.int (-102)) w := by
  refine j_start (ls := [.ref 33, .int x, .int y]) rfl ?_
  refine j_aload_n iX6_peace_0 rfl ?_
  refine j_iload_n iX6_peace_1 rfl ?_
  refine j_iload_n iX6_peace_2 rfl ?_
  refine j_V2R okX6_refused lk_X6_225 iX6_peace_3 (by omega) (by repeat (first | assumption | refine wset_ne (by decide) ?_ | exact wset_lt (by (try simp only [List.length_set]); exact wsome (by assumption)))) rfl (m_refused_o hm x y hx) rfl (Nat.le_of_ble_eq_true rfl) (Nat.le_of_ble_eq_true rfl) ?_
  refine j_if_ge (tgt := 18) iX6_peace_6 (by decide) (fun hno => by first | exact absurd hno (by decide) | exact absurd (by decide) hno) (fun _ => ?_)
  refine j_aload_n iX6_peace_9 rfl ?_
  refine j_iload_n iX6_peace_10 rfl ?_
  refine j_iload_n iX6_peace_11 rfl ?_
  refine j_V2R okX6_refused lk_X6_225 iX6_peace_12 (by omega) (by repeat (first | assumption | refine wset_ne (by decide) ?_ | exact wset_lt (by (try simp only [List.length_set]); exact wsome (by assumption)))) rfl (m_refused_o hm x y hx) rfl (Nat.le_of_ble_eq_true rfl) (Nat.le_of_ble_eq_true rfl) ?_
  refine j_goto (tgt := 24) iX6_peace_15 (by decide) ?_
  refine j_iret iX6_peace_24 rfl (by first | rfl | exact nar_bI _ | exact nar_bP) (⟨rfl, rfl⟩)
theorem m_guard_o (hm : w[33]? = some (oM bd R C fr lp lps sn sz wh nc nf nl tl sd ik kb kf kl kn hh)) (x y : Int32) (hx : inR x 5 = false ∨ inR y 2 = false) : JR 6 mX6_guard [.ref 33, .int x, .int y] w (.int (-102)) w := by
  refine j_start (ls := [.ref 33, .int x, .int y]) rfl ?_
  refine j_aload_n iX6_guard_0 rfl ?_
  refine j_iload_n iX6_guard_1 rfl ?_
  refine j_iload_n iX6_guard_2 rfl ?_
  refine j_V2R okX6_refused lk_X6_225 iX6_guard_3 (by omega) (by repeat (first | assumption | refine wset_ne (by decide) ?_ | exact wset_lt (by (try simp only [List.length_set]); exact wsome (by assumption)))) rfl (m_refused_o hm x y hx) rfl (Nat.le_of_ble_eq_true rfl) (Nat.le_of_ble_eq_true rfl) ?_
  refine j_if_ge (tgt := 18) iX6_guard_6 (by decide) (fun hno => by first | exact absurd hno (by decide) | exact absurd (by decide) hno) (fun _ => ?_)
  refine j_aload_n iX6_guard_9 rfl ?_
  refine j_iload_n iX6_guard_10 rfl ?_
  refine j_iload_n iX6_guard_11 rfl ?_
  refine j_V2R okX6_refused lk_X6_225 iX6_guard_12 (by omega) (by repeat (first | assumption | refine wset_ne (by decide) ?_ | exact wset_lt (by (try simp only [List.length_set]); exact wsome (by assumption)))) rfl (m_refused_o hm x y hx) rfl (Nat.le_of_ble_eq_true rfl) (Nat.le_of_ble_eq_true rfl) ?_
  refine j_goto (tgt := 24) iX6_guard_15 (by decide) ?_
  refine j_iret iX6_guard_24 rfl (by first | rfl | exact nar_bI _ | exact nar_bP) (⟨rfl, rfl⟩)
theorem m_parts_o (hm : w[33]? = some (oM bd R C fr lp lps sn sz wh nc nf nl tl sd ik kb kf kl kn hh)) (x y : Int32) (hx : inR x 5 = false ∨ inR y 2 = false) : JR 6 mX6_parts [.ref 33, .int x, .int y] w (.int (-102)) w := by
  refine j_start (ls := [.ref 33, .int x, .int y]) rfl ?_
  refine j_aload_n iX6_parts_0 rfl ?_
  refine j_iload_n iX6_parts_1 rfl ?_
  refine j_iload_n iX6_parts_2 rfl ?_
  refine j_V2R okX6_refused lk_X6_225 iX6_parts_3 (by omega) (by repeat (first | assumption | refine wset_ne (by decide) ?_ | exact wset_lt (by (try simp only [List.length_set]); exact wsome (by assumption)))) rfl (m_refused_o hm x y hx) rfl (Nat.le_of_ble_eq_true rfl) (Nat.le_of_ble_eq_true rfl) ?_
  refine j_if_ge (tgt := 18) iX6_parts_6 (by decide) (fun hno => by first | exact absurd hno (by decide) | exact absurd (by decide) hno) (fun _ => ?_)
  refine j_aload_n iX6_parts_9 rfl ?_
  refine j_iload_n iX6_parts_10 rfl ?_
  refine j_iload_n iX6_parts_11 rfl ?_
  refine j_V2R okX6_refused lk_X6_225 iX6_parts_12 (by omega) (by repeat (first | assumption | refine wset_ne (by decide) ?_ | exact wset_lt (by (try simp only [List.length_set]); exact wsome (by assumption)))) rfl (m_refused_o hm x y hx) rfl (Nat.le_of_ble_eq_true rfl) (Nat.le_of_ble_eq_true rfl) ?_
  refine j_goto (tgt := 24) iX6_parts_15 (by decide) ?_
  refine j_iret iX6_parts_24 rfl (by first | rfl | exact nar_bI _ | exact nar_bP) (⟨rfl, rfl⟩)
theorem m_peace_s (hm : w[33]? = some (oM bd R C fr (0) lps sn sz wh nc nf nl tl sd ik kb kf kl kn hh)) (x y : Int32) (hx : inR x 5 = true) (hy : inR y 2 = true) : JR 6 mX6_peace [.ref 33, .int x, .int y] w (.int (-103)) w := by
  refine j_start (ls := [.ref 33, .int x, .int y]) rfl ?_
  refine j_aload_n iX6_peace_0 rfl ?_
  refine j_iload_n iX6_peace_1 rfl ?_
  refine j_iload_n iX6_peace_2 rfl ?_
  refine j_V2R okX6_refused lk_X6_225 iX6_peace_3 (by omega) (by repeat (first | assumption | refine wset_ne (by decide) ?_ | exact wset_lt (by (try simp only [List.length_set]); exact wsome (by assumption)))) rfl (m_refused hm (by decide) x y hx hy) rfl (Nat.le_of_ble_eq_true rfl) (Nat.le_of_ble_eq_true rfl) ?_
  refine j_if_ge (tgt := 18) iX6_peace_6 (by decide) (fun hno => by first | exact absurd hno (by decide) | exact absurd (by decide) hno) (fun _ => ?_)
  refine j_aload_n iX6_peace_9 rfl ?_
  refine j_iload_n iX6_peace_10 rfl ?_
  refine j_iload_n iX6_peace_11 rfl ?_
  refine j_V2R okX6_refused lk_X6_225 iX6_peace_12 (by omega) (by repeat (first | assumption | refine wset_ne (by decide) ?_ | exact wset_lt (by (try simp only [List.length_set]); exact wsome (by assumption)))) rfl (m_refused hm (by decide) x y hx hy) rfl (Nat.le_of_ble_eq_true rfl) (Nat.le_of_ble_eq_true rfl) ?_
  refine j_goto (tgt := 24) iX6_peace_15 (by decide) ?_
  refine j_iret iX6_peace_24 rfl (by first | rfl | exact nar_bI _ | exact nar_bP) (⟨rfl, rfl⟩)
theorem m_guard_s (hm : w[33]? = some (oM bd R C fr (0) lps sn sz wh nc nf nl tl sd ik kb kf kl kn hh)) (x y : Int32) (hx : inR x 5 = true) (hy : inR y 2 = true) : JR 6 mX6_guard [.ref 33, .int x, .int y] w (.int (-103)) w := by
  refine j_start (ls := [.ref 33, .int x, .int y]) rfl ?_
  refine j_aload_n iX6_guard_0 rfl ?_
  refine j_iload_n iX6_guard_1 rfl ?_
  refine j_iload_n iX6_guard_2 rfl ?_
  refine j_V2R okX6_refused lk_X6_225 iX6_guard_3 (by omega) (by repeat (first | assumption | refine wset_ne (by decide) ?_ | exact wset_lt (by (try simp only [List.length_set]); exact wsome (by assumption)))) rfl (m_refused hm (by decide) x y hx hy) rfl (Nat.le_of_ble_eq_true rfl) (Nat.le_of_ble_eq_true rfl) ?_
  refine j_if_ge (tgt := 18) iX6_guard_6 (by decide) (fun hno => by first | exact absurd hno (by decide) | exact absurd (by decide) hno) (fun _ => ?_)
  refine j_aload_n iX6_guard_9 rfl ?_
  refine j_iload_n iX6_guard_10 rfl ?_
  refine j_iload_n iX6_guard_11 rfl ?_
  refine j_V2R okX6_refused lk_X6_225 iX6_guard_12 (by omega) (by repeat (first | assumption | refine wset_ne (by decide) ?_ | exact wset_lt (by (try simp only [List.length_set]); exact wsome (by assumption)))) rfl (m_refused hm (by decide) x y hx hy) rfl (Nat.le_of_ble_eq_true rfl) (Nat.le_of_ble_eq_true rfl) ?_
  refine j_goto (tgt := 24) iX6_guard_15 (by decide) ?_
  refine j_iret iX6_guard_24 rfl (by first | rfl | exact nar_bI _ | exact nar_bP) (⟨rfl, rfl⟩)
theorem m_parts_s (hm : w[33]? = some (oM bd R C fr (0) lps sn sz wh nc nf nl tl sd ik kb kf kl kn hh)) (x y : Int32) (hx : inR x 5 = true) (hy : inR y 2 = true) : JR 6 mX6_parts [.ref 33, .int x, .int y] w (.int (-103)) w := by
  refine j_start (ls := [.ref 33, .int x, .int y]) rfl ?_
  refine j_aload_n iX6_parts_0 rfl ?_
  refine j_iload_n iX6_parts_1 rfl ?_
  refine j_iload_n iX6_parts_2 rfl ?_
  refine j_V2R okX6_refused lk_X6_225 iX6_parts_3 (by omega) (by repeat (first | assumption | refine wset_ne (by decide) ?_ | exact wset_lt (by (try simp only [List.length_set]); exact wsome (by assumption)))) rfl (m_refused hm (by decide) x y hx hy) rfl (Nat.le_of_ble_eq_true rfl) (Nat.le_of_ble_eq_true rfl) ?_
  refine j_if_ge (tgt := 18) iX6_parts_6 (by decide) (fun hno => by first | exact absurd hno (by decide) | exact absurd (by decide) hno) (fun _ => ?_)
  refine j_aload_n iX6_parts_9 rfl ?_
  refine j_iload_n iX6_parts_10 rfl ?_
  refine j_iload_n iX6_parts_11 rfl ?_
  refine j_V2R okX6_refused lk_X6_225 iX6_parts_12 (by omega) (by repeat (first | assumption | refine wset_ne (by decide) ?_ | exact wset_lt (by (try simp only [List.length_set]); exact wsome (by assumption)))) rfl (m_refused hm (by decide) x y hx hy) rfl (Nat.le_of_ble_eq_true rfl) (Nat.le_of_ble_eq_true rfl) ?_
  refine j_goto (tgt := 24) iX6_parts_15 (by decide) ?_
  refine j_iret iX6_parts_24 rfl (by first | rfl | exact nar_bI _ | exact nar_bP) (⟨rfl, rfl⟩)
theorem fold_b {f : Nat → Nat → Nat} (hf : ∀ j y, j < 4096 → y < 4096 → f j y < 4096) : ∀ n i x, i + n ≤ 4096 → x < 4096 → fold f n i x < 4096 := by
  intro n
  induction n with
  | zero => intro i x _ h; exact h
  | succ n ih => intro i x hi h; exact ih _ _ (by omega) (hf _ _ (by omega) h)
theorem psF_b {f : Nat → Nat} {fr : Nat} (h : fr < 4096) : psF f fr < 4096 := fold_b (fun j y h1 h2 => by unfold psStep; split <;> assumption) _ _ _ (by omega) (by decide)
theorem gsF_b {f : Nat → Nat} {fr : Nat} (h : fr < 4096) : gsF f fr < 4096 := fold_b (fun j y h1 h2 => by unfold gsStep; split <;> assumption) _ _ _ (by omega) h
def peaceM (C N fr k y : Nat) : Nat := if y = 0 then pop (psF (fanF C N k) fr) else psF (fanF C N k) fr
def guardM (C N fr k y : Nat) : Nat := if y = 0 then pop (gsF (fanF C N k) fr) else gsF (fanF C N k) fr
def partsM (C N fr k y : Nat) : Nat := if y = 0 then pnF (fanF C N k) N fr else (asF (fanF C N k) N fr).toNat
theorem m_peaceNow (hm : w[33]? = some (oM bd R C fr lp lps sn sz wh nc nf nl tl sd ik kb kf kl kn hh)) (hN : R * C ≤ 12) (hfr : fr < 4096) (k y : Nat) (hk : k < 5) (hy : y < 2) : JR 5 mX6_peaceNow [.ref 33, .int (nI k), .int (nI y)] w (.int (nI (peaceM C (R * C) fr k y))) w := by
  have hb := psF_b (f := fanF C (R * C) k) hfr
  refine j_start (ls := [.ref 33, .int (nI k), .int (nI y)]) rfl ?_
  refine j_iload_n iX6_peaceNow_0 rfl ?_
  refine j_if_neN (tgt := 15) iX6_peaceNow_1 (by decide) (by omega) (fun h1 => ?_) (fun h1 => ?_)
  · refine j_aload_n iX6_peaceNow_15 rfl ?_
    refine j_iload_n iX6_peaceNow_16 rfl ?_
    refine j_V1R okX6_peaceSet lk_X6_222 iX6_peaceNow_17 (by omega) (by repeat (first | assumption | refine wset_ne (by decide) ?_ | exact wset_lt (by (try simp only [List.length_set]); exact wsome (by assumption)))) rfl (m_peaceSet hm hN hfr k hk) rfl (Nat.le_of_ble_eq_true rfl) (Nat.le_of_ble_eq_true rfl) ?_
    refine j_iret iX6_peaceNow_20 rfl (by first | rfl | exact nar_bI _ | exact nar_bP) (⟨by unfold peaceM; first | rw [if_pos h1] | rw [if_neg h1], rfl⟩)
  · refine j_aload_n iX6_peaceNow_4 rfl ?_
    refine j_iload_n iX6_peaceNow_5 rfl ?_
    refine j_V1R okX6_peaceSet lk_X6_222 iX6_peaceNow_6 (by omega) (by repeat (first | assumption | refine wset_ne (by decide) ?_ | exact wset_lt (by (try simp only [List.length_set]); exact wsome (by assumption)))) rfl (m_peaceSet hm hN hfr k hk) rfl (Nat.le_of_ble_eq_true rfl) (Nat.le_of_ble_eq_true rfl) ?_
    refine j_S1R okX6_size lk_X6_185 iX6_peaceNow_9 (by omega) (m_size _ (by omega)) rfl (Nat.le_of_ble_eq_true rfl) (Nat.le_of_ble_eq_true rfl) ?_
    refine j_goto (tgt := 20) iX6_peaceNow_12 (by decide) ?_
    refine j_iret iX6_peaceNow_20 rfl (by first | rfl | exact nar_bI _ | exact nar_bP) (⟨by unfold peaceM; first | rw [if_pos h1] | rw [if_neg h1], rfl⟩)
theorem m_guardNow (hm : w[33]? = some (oM bd R C fr lp lps sn sz wh nc nf nl tl sd ik kb kf kl kn hh)) (hN : R * C ≤ 12) (hfr : fr < 4096) (k y : Nat) (hk : k < 5) (hy : y < 2) : JR 5 mX6_guardNow [.ref 33, .int (nI k), .int (nI y)] w (.int (nI (guardM C (R * C) fr k y))) w := by
  have hb := gsF_b (f := fanF C (R * C) k) hfr
  refine j_start (ls := [.ref 33, .int (nI k), .int (nI y)]) rfl ?_
  refine j_iload_n iX6_guardNow_0 rfl ?_
  refine j_if_neN (tgt := 15) iX6_guardNow_1 (by decide) (by omega) (fun h1 => ?_) (fun h1 => ?_)
  · refine j_aload_n iX6_guardNow_15 rfl ?_
    refine j_iload_n iX6_guardNow_16 rfl ?_
    refine j_V1R okX6_guardSet lk_X6_231 iX6_guardNow_17 (by omega) (by repeat (first | assumption | refine wset_ne (by decide) ?_ | exact wset_lt (by (try simp only [List.length_set]); exact wsome (by assumption)))) rfl (m_guardSet hm hN hfr k hk) rfl (Nat.le_of_ble_eq_true rfl) (Nat.le_of_ble_eq_true rfl) ?_
    refine j_iret iX6_guardNow_20 rfl (by first | rfl | exact nar_bI _ | exact nar_bP) (⟨by unfold guardM; first | rw [if_pos h1] | rw [if_neg h1], rfl⟩)
  · refine j_aload_n iX6_guardNow_4 rfl ?_
    refine j_iload_n iX6_guardNow_5 rfl ?_
    refine j_V1R okX6_guardSet lk_X6_231 iX6_guardNow_6 (by omega) (by repeat (first | assumption | refine wset_ne (by decide) ?_ | exact wset_lt (by (try simp only [List.length_set]); exact wsome (by assumption)))) rfl (m_guardSet hm hN hfr k hk) rfl (Nat.le_of_ble_eq_true rfl) (Nat.le_of_ble_eq_true rfl) ?_
    refine j_S1R okX6_size lk_X6_185 iX6_guardNow_9 (by omega) (m_size _ (by omega)) rfl (Nat.le_of_ble_eq_true rfl) (Nat.le_of_ble_eq_true rfl) ?_
    refine j_goto (tgt := 20) iX6_guardNow_12 (by decide) ?_
    refine j_iret iX6_guardNow_20 rfl (by first | rfl | exact nar_bI _ | exact nar_bP) (⟨by unfold guardM; first | rw [if_pos h1] | rw [if_neg h1], rfl⟩)
theorem m_partsTold (hm : w[33]? = some (oM bd R C fr lp lps sn sz wh nc nf nl tl sd ik kb kf kl kn hh)) (hN : R * C ≤ 12) (hfr : fr < 4096) (k y : Nat) (hk : k < 5) (hy : y < 2) : JR 6 mX6_partsTold [.ref 33, .int (nI k), .int (nI y)] w (.int (nI (partsM C (R * C) fr k y))) w := by
  refine j_start (ls := [.ref 33, .int (nI k), .int (nI y)]) rfl ?_
  refine j_iload_n iX6_partsTold_0 rfl ?_
  refine j_if_neN (tgt := 12) iX6_partsTold_1 (by decide) (by omega) (fun h1 => ?_) (fun h1 => ?_)
  · refine j_aload_n iX6_partsTold_12 rfl ?_
    refine j_iload_n iX6_partsTold_13 rfl ?_
    refine j_V1R okX6_areShades lk_X6_243 iX6_partsTold_14 (by omega) (by repeat (first | assumption | refine wset_ne (by decide) ?_ | exact wset_lt (by (try simp only [List.length_set]); exact wsome (by assumption)))) rfl (m_areShades hm hN hfr k hk) rfl (Nat.le_of_ble_eq_true rfl) (Nat.le_of_ble_eq_true rfl) ?_
    refine j_if_eqB (tgt := 24) iX6_partsTold_17 (by decide) (fun h17 => ?_) (fun h17 => ?_)
    · refine j_iconst (v := nI 0) iX6_partsTold_24 (by decide) ?_
      refine j_iret iX6_partsTold_25 rfl (by first | rfl | exact nar_bI _ | exact nar_bP) (⟨by unfold partsM; first | rw [if_pos h1] | (rw [if_neg h1, h17]; rfl), rfl⟩)
    · refine j_iconst (v := nI 1) iX6_partsTold_20 (by decide) ?_
      refine j_goto (tgt := 25) iX6_partsTold_21 (by decide) ?_
      refine j_iret iX6_partsTold_25 rfl (by first | rfl | exact nar_bI _ | exact nar_bP) (⟨by unfold partsM; first | rw [if_pos h1] | (rw [if_neg h1, h17]; rfl), rfl⟩)
  · refine j_aload_n iX6_partsTold_4 rfl ?_
    refine j_iload_n iX6_partsTold_5 rfl ?_
    refine j_V1R okX6_partsNow lk_X6_240 iX6_partsTold_6 (by omega) (by repeat (first | assumption | refine wset_ne (by decide) ?_ | exact wset_lt (by (try simp only [List.length_set]); exact wsome (by assumption)))) rfl (m_partsNow hm hN hfr k hk) rfl (Nat.le_of_ble_eq_true rfl) (Nat.le_of_ble_eq_true rfl) ?_
    refine j_goto (tgt := 25) iX6_partsTold_9 (by decide) ?_
    refine j_iret iX6_partsTold_25 rfl (by first | rfl | exact nar_bI _ | exact nar_bP) (⟨by unfold partsM; first | rw [if_pos h1] | (rw [if_neg h1, h17]; rfl), rfl⟩)
theorem m_peace (hm : w[33]? = some (oM bd R C fr lp lps sn sz wh nc nf nl tl sd ik kb kf kl kn hh)) (hN : R * C ≤ 12) (hfr : fr < 4096) (hlp : lp ≤ 4) (hl : 0 < lp) (k y : Nat) (hk : k < 5) (hy : y < 2) : JR 6 mX6_peace [.ref 33, .int (nI k), .int (nI y)] w (.int (nI (peaceM C (R * C) fr k y))) w := by
  refine j_start (ls := [.ref 33, .int (nI k), .int (nI y)]) rfl ?_
  refine j_aload_n iX6_peace_0 rfl ?_
  refine j_iload_n iX6_peace_1 rfl ?_
  refine j_iload_n iX6_peace_2 rfl ?_
  refine j_V2R okX6_refused lk_X6_225 iX6_peace_3 (by omega) (by repeat (first | assumption | refine wset_ne (by decide) ?_ | exact wset_lt (by (try simp only [List.length_set]); exact wsome (by assumption)))) rfl (m_refused hm hlp _ _ (by rw [inR_nI (by omega) (by decide)]; exact decide_eq_true hk) (by rw [inR_nI (by omega) (by decide)]; exact decide_eq_true hy)) rfl (Nat.le_of_ble_eq_true rfl) (Nat.le_of_ble_eq_true rfl) ?_
  refine j_if_ge (tgt := 18) iX6_peace_6 (by decide) (fun _ => ?_) (fun hno => by first | exact absurd hno (by rw [if_neg (by omega)]; decide) | exact absurd (by rw [if_neg (by omega)]; decide) hno)
  refine j_aload_n iX6_peace_18 rfl ?_
  refine j_iload_n iX6_peace_19 rfl ?_
  refine j_iload_n iX6_peace_20 rfl ?_
  refine j_V2R okX6_peaceNow lk_X6_228 iX6_peace_21 (by omega) (by repeat (first | assumption | refine wset_ne (by decide) ?_ | exact wset_lt (by (try simp only [List.length_set]); exact wsome (by assumption)))) rfl (m_peaceNow hm hN hfr k y hk hy) rfl (Nat.le_of_ble_eq_true rfl) (Nat.le_of_ble_eq_true rfl) ?_
  refine j_iret iX6_peace_24 rfl (by first | rfl | exact nar_bI _ | exact nar_bP) (⟨rfl, rfl⟩)
theorem m_guard (hm : w[33]? = some (oM bd R C fr lp lps sn sz wh nc nf nl tl sd ik kb kf kl kn hh)) (hN : R * C ≤ 12) (hfr : fr < 4096) (hlp : lp ≤ 4) (hl : 0 < lp) (k y : Nat) (hk : k < 5) (hy : y < 2) : JR 6 mX6_guard [.ref 33, .int (nI k), .int (nI y)] w (.int (nI (guardM C (R * C) fr k y))) w := by
  refine j_start (ls := [.ref 33, .int (nI k), .int (nI y)]) rfl ?_
  refine j_aload_n iX6_guard_0 rfl ?_
  refine j_iload_n iX6_guard_1 rfl ?_
  refine j_iload_n iX6_guard_2 rfl ?_
  refine j_V2R okX6_refused lk_X6_225 iX6_guard_3 (by omega) (by repeat (first | assumption | refine wset_ne (by decide) ?_ | exact wset_lt (by (try simp only [List.length_set]); exact wsome (by assumption)))) rfl (m_refused hm hlp _ _ (by rw [inR_nI (by omega) (by decide)]; exact decide_eq_true hk) (by rw [inR_nI (by omega) (by decide)]; exact decide_eq_true hy)) rfl (Nat.le_of_ble_eq_true rfl) (Nat.le_of_ble_eq_true rfl) ?_
  refine j_if_ge (tgt := 18) iX6_guard_6 (by decide) (fun _ => ?_) (fun hno => by first | exact absurd hno (by rw [if_neg (by omega)]; decide) | exact absurd (by rw [if_neg (by omega)]; decide) hno)
  refine j_aload_n iX6_guard_18 rfl ?_
  refine j_iload_n iX6_guard_19 rfl ?_
  refine j_iload_n iX6_guard_20 rfl ?_
  refine j_V2R okX6_guardNow lk_X6_234 iX6_guard_21 (by omega) (by repeat (first | assumption | refine wset_ne (by decide) ?_ | exact wset_lt (by (try simp only [List.length_set]); exact wsome (by assumption)))) rfl (m_guardNow hm hN hfr k y hk hy) rfl (Nat.le_of_ble_eq_true rfl) (Nat.le_of_ble_eq_true rfl) ?_
  refine j_iret iX6_guard_24 rfl (by first | rfl | exact nar_bI _ | exact nar_bP) (⟨rfl, rfl⟩)
theorem m_parts (hm : w[33]? = some (oM bd R C fr lp lps sn sz wh nc nf nl tl sd ik kb kf kl kn hh)) (hN : R * C ≤ 12) (hfr : fr < 4096) (hlp : lp ≤ 4) (hl : 0 < lp) (k y : Nat) (hk : k < 5) (hy : y < 2) : JR 7 mX6_parts [.ref 33, .int (nI k), .int (nI y)] w (.int (nI (partsM C (R * C) fr k y))) w := by
  refine j_start (ls := [.ref 33, .int (nI k), .int (nI y)]) rfl ?_
  refine j_aload_n iX6_parts_0 rfl ?_
  refine j_iload_n iX6_parts_1 rfl ?_
  refine j_iload_n iX6_parts_2 rfl ?_
  refine j_V2R okX6_refused lk_X6_225 iX6_parts_3 (by omega) (by repeat (first | assumption | refine wset_ne (by decide) ?_ | exact wset_lt (by (try simp only [List.length_set]); exact wsome (by assumption)))) rfl (m_refused hm hlp _ _ (by rw [inR_nI (by omega) (by decide)]; exact decide_eq_true hk) (by rw [inR_nI (by omega) (by decide)]; exact decide_eq_true hy)) rfl (Nat.le_of_ble_eq_true rfl) (Nat.le_of_ble_eq_true rfl) ?_
  refine j_if_ge (tgt := 18) iX6_parts_6 (by decide) (fun _ => ?_) (fun hno => by first | exact absurd hno (by rw [if_neg (by omega)]; decide) | exact absurd (by rw [if_neg (by omega)]; decide) hno)
  refine j_aload_n iX6_parts_18 rfl ?_
  refine j_iload_n iX6_parts_19 rfl ?_
  refine j_iload_n iX6_parts_20 rfl ?_
  refine j_V2R okX6_partsTold lk_X6_246 iX6_parts_21 (by omega) (by repeat (first | assumption | refine wset_ne (by decide) ?_ | exact wset_lt (by (try simp only [List.length_set]); exact wsome (by assumption)))) rfl (m_partsTold hm hN hfr k y hk hy) rfl (Nat.le_of_ble_eq_true rfl) (Nat.le_of_ble_eq_true rfl) ?_
  refine j_iret iX6_parts_24 rfl (by first | rfl | exact nar_bI _ | exact nar_bP) (⟨rfl, rfl⟩)
end
