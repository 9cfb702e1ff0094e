/-! ===== sets, bit by bit ===== -/
theorem tb_ext {a b : Nat} (h : ∀ i, a.testBit i = true ↔ b.testBit i = true) : a = b := Nat.eq_of_testBit_eq fun i => Bool.eq_iff_iff.mpr (h i)
theorem or_tb {a b i : Nat} : (a ||| b).testBit i = true ↔ a.testBit i = true ∨ b.testBit i = true := by rw [Nat.testBit_or, Bool.or_eq_true]
theorem and_tb {a b i : Nat} : (a &&& b).testBit i = true ↔ a.testBit i = true ∧ b.testBit i = true := by rw [Nat.testBit_and, Bool.and_eq_true]
theorem ad_tbP {a b i : Nat} : (ad a b).testBit i = true ↔ a.testBit i = true ∧ ¬ b.testBit i = true := by
  rw [ad_tb]; cases a.testBit i <;> cases b.testBit i <;> decide
theorem pw_tb {k i : Nat} : (2 ^ k).testBit i = true ↔ k = i := by rw [Nat.testBit_two_pow, decide_eq_true_eq]
theorem foldOr_tb {f : Nat → Nat} : ∀ (n i r b : Nat), (fold (fun j r => r ||| f j) n i r).testBit b = true ↔ r.testBit b = true ∨ ∃ j, i ≤ j ∧ j < i + n ∧ (f j).testBit b = true := by
  intro n
  induction n with
  | zero => intro i r b; simp only [fold]; exact ⟨Or.inl, fun h => h.elim id (fun ⟨j, h1, h2, _⟩ => by omega)⟩
  | succ n ih =>
    intro i r b
    simp only [fold]
    rw [ih, or_tb]
    constructor
    · rintro ((h | h) | ⟨j, h1, h2, h3⟩)
      · exact Or.inl h
      · exact Or.inr ⟨i, Nat.le_refl _, by omega, h⟩
      · exact Or.inr ⟨j, by omega, by omega, h3⟩
    · rintro (h | ⟨j, h1, h2, h3⟩)
      · exact Or.inl (Or.inl h)
      · by_cases e : j = i
        · subst e; exact Or.inl (Or.inr h3)
        · exact Or.inr ⟨j, by omega, by omega, h3⟩
theorem foldIf_tb {f : Nat → Nat} {P : Nat → Bool} (n i r b : Nat) : (fold (fun j r => if P j = true then r ||| f j else r) n i r).testBit b = true ↔ r.testBit b = true ∨ ∃ j, i ≤ j ∧ j < i + n ∧ P j = true ∧ (f j).testBit b = true := by
  rw [fold_congr n i r (g := fun j r => r ||| (if P j = true then f j else 0)) (fun j y _ _ => by by_cases h : P j = true; (rw [if_pos h, if_pos h]); (rw [if_neg h, if_neg h, Nat.or_zero])), foldOr_tb]
  constructor
  · rintro (h | ⟨j, h1, h2, h3⟩)
    · exact Or.inl h
    · by_cases h : P j = true
      · rw [if_pos h] at h3; exact Or.inr ⟨j, h1, h2, h, h3⟩
      · rw [if_neg h, Nat.zero_testBit] at h3; cases h3
  · rintro (h | ⟨j, h1, h2, h3, h4⟩)
    · exact Or.inl h
    · exact Or.inr ⟨j, h1, h2, by rw [if_pos h3]; exact h4⟩
theorem spreadFrom_fold (f : Nat → Nat) (S : Nat) : ∀ n i r, spreadFrom f S n i r = fold (fun j r => if S.testBit j = true then r ||| f j else r) n i r := by
  intro n
  induction n with
  | zero => intro i r; rfl
  | succ n ih => intro i r; exact ih _ _
theorem spread_tb {f : Nat → Nat} {S b : Nat} : (spread f S).testBit b = true ↔ ∃ c, c < 12 ∧ S.testBit c = true ∧ (f c).testBit b = true := by
  unfold spread
  rw [spreadFrom_fold, foldIf_tb, Nat.zero_testBit]
  constructor
  · rintro (h | ⟨j, h1, h2, h3, h4⟩)
    · cases h
    · exact ⟨j, by omega, h3, h4⟩
  · rintro ⟨j, h1, h2, h3⟩
    exact Or.inr ⟨j, Nat.zero_le _, by omega, h2, h3⟩
def stdF (lp : Nat) (sts : Nat → Nat) : Nat := fold (fun l r => r ||| 2 ^ sts l) lp 0 0
theorem std_tb {lp : Nat} {sts : Nat → Nat} {b : Nat} : (stdF lp sts).testBit b = true ↔ ∃ j, j < lp ∧ sts j = b := by
  unfold stdF
  rw [foldOr_tb, Nat.zero_testBit]
  constructor
  · rintro (h | ⟨j, h1, h2, h3⟩)
    · cases h
    · exact ⟨j, by omega, pw_tb.mp h3⟩
  · rintro ⟨j, h1, h2⟩
    exact Or.inr ⟨j, Nat.zero_le _, by omega, pw_tb.mpr h2⟩
theorem empty_tb {fr lp : Nat} {sts : Nat → Nat} {b : Nat} : (emptyF fr lp sts).testBit b = true ↔ fr.testBit b = true ∧ ∀ j, j < lp → sts j ≠ b := by
  have : ∀ n i e, (emptyFrom sts n i e).testBit b = true ↔ e.testBit b = true ∧ ∀ j, i ≤ j → j < i + n → sts j ≠ b := by
    intro n
    induction n with
    | zero => intro i e; exact ⟨fun h => ⟨h, fun j h1 h2 => by omega⟩, fun h => h.1⟩
    | succ n ih =>
      intro i e
      simp only [emptyFrom]
      rw [ih, ad_tbP, pw_tb]
      constructor
      · rintro ⟨⟨h1, h2⟩, h3⟩
        exact ⟨h1, fun j h4 h5 => by by_cases e : j = i; (rw [e]; exact h2); exact h3 j (by omega) (by omega)⟩
      · rintro ⟨h1, h2⟩
        exact ⟨⟨h1, h2 i (Nat.le_refl _) (by omega)⟩, fun j h3 h4 => h2 j (by omega) (by omega)⟩
  unfold emptyF
  rw [this]
  exact ⟨fun h => ⟨h.1, fun j hj => h.2 j (Nat.zero_le _) (by omega)⟩, fun h => ⟨h.1, fun j _ hj => h.2 j (by omega)⟩⟩
theorem empty_ad (fr lp : Nat) (sts : Nat → Nat) : emptyF fr lp sts = ad fr (stdF lp sts) := tb_ext fun i => by
  rw [empty_tb, ad_tbP, std_tb]
  exact ⟨fun h => ⟨h.1, fun ⟨j, h1, h2⟩ => h.2 j h1 h2⟩, fun h => ⟨h.1, fun j h1 h2 => h.2 ⟨j, h1, h2⟩⟩⟩
theorem gol_ad (C N fr lp : Nat) (ks sts : Nat → Nat) (j : Nat) : gol C N fr lp ks sts j = ad (wat C N fr ks sts j) (stdF lp sts) := tb_ext fun i => by
  unfold gol wat
  rw [empty_ad, and_tb, ad_tbP, ad_tbP, and_tb]
  exact ⟨fun h => ⟨h.1, h.2.2⟩, fun h => ⟨h.1, h.1.2, h.2⟩⟩
theorem std_b {lp : Nat} {sts : Nat → Nat} (h : ∀ i, sts i < 12) : stdF lp sts < 4096 := fold_inv (P := fun x => x < 4096) lp 0 0 (by decide) fun j y _ _ hy => or_b hy (pw_b (h j))
def whoM (lp : Nat) (sts : Nat → Nat) (c : Nat) : Option Nat := fold (fun l who => if sts l = c then some l else who) lp 0 none
theorem who_eq {lp : Nat} {sts : Nat → Nat} (c : Nat) (hd : ∀ i j, i < lp → j < lp → sts i = sts j → i = j) : whoM lp sts c = whoF lp sts c := by
  have h1 : ∀ n i who, (∀ j, i ≤ j → j < i + n → sts j ≠ c) → fold (fun l who => if sts l = c then some l else who) n i who = who := by
    intro n
    induction n with
    | zero => intro i who _; rfl
    | succ n ih =>
      intro i who h
      simp only [fold]
      rw [if_neg (h i (Nat.le_refl _) (by omega))]
      exact ih _ _ (fun j h1 h2 => h j (by omega) (by omega))
  have h2 : ∀ n i, i + n = lp → fold (fun l who => if sts l = c then some l else who) n i none = whoFrom sts c n i := by
    intro n
    induction n with
    | zero => intro i _; rfl
    | succ n ih =>
      intro i hi
      simp only [fold, whoFrom]
      by_cases h : sts i = c
      · rw [if_pos h, if_pos h]
        exact h1 n (i + 1) (some i) (fun j q1 q2 q3 => by have := hd i j (by omega) (by omega) (h.trans q3.symm); omega)
      · rw [if_neg h, if_neg h]
        exact ih (i + 1) (by omega)
  exact h2 lp 0 (by omega)
theorem ar_all {C N fr k S : Nat} (hN : N ≤ 12) : fold (fun c r => r ||| (if S.testBit c = true then fanF C N k c &&& fr else 0)) N 0 0 = spread (fanF C N k) S &&& fr := tb_ext fun b => by
  rw [foldOr_tb, and_tb, spread_tb, Nat.zero_testBit]
  constructor
  · rintro (h | ⟨c, h1, h2, h3⟩)
    · cases h
    · by_cases hc : S.testBit c = true
      · rw [if_pos hc, and_tb] at h3
        exact ⟨⟨c, by omega, hc, h3.1⟩, h3.2⟩
      · rw [if_neg hc, Nat.zero_testBit] at h3; cases h3
  · rintro ⟨⟨c, h1, h2, h3⟩, h4⟩
    by_cases hc : c < N
    · exact Or.inr ⟨c, Nat.zero_le _, by omega, by rw [if_pos h2, and_tb]; exact ⟨h3, h4⟩⟩
    · unfold fanF at h3
      rw [if_pos (by omega), Nat.zero_testBit] at h3
      cases h3
/-! ===== the reference: reads, on ===== -/
section
variable {w : mW} {bd R C fr lp lps sn sz : Nat} {wh : Bool} {nc nf nl tl : Nat} {sd : Int64} {ik : Bool} {kb kf kl kn : Nat} {hh : Int64} {ks sts pg : Nat → Nat}
theorem m_standing (hm : w[33]? = some (oM bd R C fr lp lps sn sz wh nc nf nl tl sd ik kb kf kl kn hh)) (h35 : w[35]? = some (nA 4 sts)) (hlp : lp ≤ 4) (hst : ∀ i, sts i < 12) : JR 0 mX6_standing [.ref 33] w (.int (nI (stdF lp sts))) w := by
  have L : ∀ (n i r : Nat), i + n = lp → J 0 mX6_standing 4 [.ref 33, .int (nI r), .int (nI i)] [] w (fun v u => v = some (.int (nI (fold (fun l r => r ||| 2 ^ sts l) n i r))) ∧ u = w) := by
    intro n
    induction n with
    | zero =>
      intro i r hi
      refine j_iload_n iX6_standing_4 rfl ?_
      refine j_aload_n iX6_standing_5 rfl ?_
      refine j_get fk_X6_119 iX6_standing_6 (by repeat (first | assumption | refine wset_ne (by decide) ?_ | exact wset_lt (by (try simp only [List.length_set]); exact wsome (by assumption)))) (by rfl) ?_
      refine j_icmp_geN (tgt := 29) iX6_standing_9 (by decide) (by omega) (by omega) (fun _ => ?_) (fun hno => by exfalso; omega)
      refine j_iload_n iX6_standing_29 rfl ?_
      refine j_iret iX6_standing_30 rfl (by first | rfl | exact nar_bI _ | exact nar_bP) (⟨rfl, rfl⟩)
    | succ n ih =>
      intro i r hi
      have hx := hst i
      refine j_iload_n iX6_standing_4 rfl ?_
      refine j_aload_n iX6_standing_5 rfl ?_
      refine j_get fk_X6_119 iX6_standing_6 (by repeat (first | assumption | refine wset_ne (by decide) ?_ | exact wset_lt (by (try simp only [List.length_set]); exact wsome (by assumption)))) (by rfl) ?_
      refine j_icmp_geN (tgt := 29) iX6_standing_9 (by decide) (by omega) (by omega) (fun hno => by exfalso; omega) (fun _ => ?_)
      refine j_iload_n iX6_standing_12 rfl ?_
      refine j_iconst (v := nI 1) iX6_standing_13 (by decide) ?_
      refine j_aload_n iX6_standing_14 rfl ?_
      refine j_get fk_X6_13 iX6_standing_15 (by repeat (first | assumption | refine wset_ne (by decide) ?_ | exact wset_lt (by (try simp only [List.length_set]); exact wsome (by assumption)))) (by rfl) ?_
      refine j_iload_n iX6_standing_18 rfl ?_
      refine j_ialdN iX6_standing_19 (by repeat (first | assumption | refine wset_ne (by decide) ?_ | exact wset_lt (by (try simp only [List.length_set]); exact wsome (by assumption)))) (by omega) ?_
      refine j_ishlN iX6_standing_20 (by omega) ?_
      refine j_iorN iX6_standing_21  ?_
      refine j_istore_n iX6_standing_22 (by decide) rfl ?_
      dsimp only [List.set]
      refine j_iincN iX6_standing_23 rfl (by decide) rfl ?_
      dsimp only [List.set]
      refine j_goto (tgt := 4) iX6_standing_26 (by decide) ?_
      exact ih (i + 1) _ (by omega)
  refine j_start (ls := [.ref 33, .null, .null]) rfl ?_
  refine j_iconst (v := nI 0) iX6_standing_0 (by decide) ?_
  refine j_istore_n iX6_standing_1 (by decide) rfl ?_
  dsimp only [List.set]
  refine j_iconst (v := nI 0) iX6_standing_2 (by decide) ?_
  refine j_istore_n iX6_standing_3 (by decide) rfl ?_
  dsimp only [List.set]
  exact L lp 0 0 (by omega)
theorem m_watched (hm : w[33]? = some (oM bd R C fr lp lps sn sz wh nc nf nl tl sd ik kb kf kl kn hh)) (h34 : w[34]? = some (nA 4 ks)) (h35 : w[35]? = some (nA 4 sts)) (hN : R * C ≤ 12) (hfr : fr < 4096) (j : Nat) (hj : j < 4) (hk : ks j < 5) (hs : sts j < R * C) : JR 3 mX6_watched [.ref 33, .int (nI j)] w (.int (nI (wat C (R * C) fr ks sts j))) w := by
  refine j_start (ls := [.ref 33, .int (nI j)]) rfl ?_
  refine j_aload_n iX6_watched_0 rfl ?_
  refine j_aload_n iX6_watched_1 rfl ?_
  refine j_get fk_X6_7 iX6_watched_2 (by repeat (first | assumption | refine wset_ne (by decide) ?_ | exact wset_lt (by (try simp only [List.length_set]); exact wsome (by assumption)))) (by rfl) ?_
  refine j_iload_n iX6_watched_5 rfl ?_
  refine j_ialdN iX6_watched_6 (by repeat (first | assumption | refine wset_ne (by decide) ?_ | exact wset_lt (by (try simp only [List.length_set]); exact wsome (by assumption)))) (by omega) ?_
  refine j_aload_n iX6_watched_7 rfl ?_
  refine j_get fk_X6_13 iX6_watched_8 (by repeat (first | assumption | refine wset_ne (by decide) ?_ | exact wset_lt (by (try simp only [List.length_set]); exact wsome (by assumption)))) (by rfl) ?_
  refine j_iload_n iX6_watched_11 rfl ?_
  refine j_ialdN iX6_watched_12 (by repeat (first | assumption | refine wset_ne (by decide) ?_ | exact wset_lt (by (try simp only [List.length_set]); exact wsome (by assumption)))) (by omega) ?_
  refine j_V2R okX6_around lk_X6_145 iX6_watched_13 (by omega) (by repeat (first | assumption | refine wset_ne (by decide) ?_ | exact wset_lt (by (try simp only [List.length_set]); exact wsome (by assumption)))) rfl (m_around hm hN hfr _ _ hk hs) rfl (Nat.le_of_ble_eq_true rfl) (Nat.le_of_ble_eq_true rfl) ?_
  refine j_iret iX6_watched_16 rfl (by first | rfl | exact nar_bI _ | exact nar_bP) (⟨rfl, rfl⟩)
theorem m_canGo (hm : w[33]? = some (oM bd R C fr lp lps sn sz wh nc nf nl tl sd ik kb kf kl kn hh)) (h34 : w[34]? = some (nA 4 ks)) (h35 : w[35]? = some (nA 4 sts)) (hN : R * C ≤ 12) (hfr : fr < 4096) (hlp : lp ≤ 4) (hst : ∀ i, sts i < 12) (j : Nat) (hj : j < 4) (hk : ks j < 5) (hs : sts j < R * C) : JR 4 mX6_canGo [.ref 33, .int (nI j)] w (.int (nI (gol C (R * C) fr lp ks sts j))) w := by
  refine j_start (ls := [.ref 33, .int (nI j)]) rfl ?_
  refine j_aload_n iX6_canGo_0 rfl ?_
  refine j_iload_n iX6_canGo_1 rfl ?_
  refine j_V1R okX6_watched lk_X6_148 iX6_canGo_2 (by omega) (by repeat (first | assumption | refine wset_ne (by decide) ?_ | exact wset_lt (by (try simp only [List.length_set]); exact wsome (by assumption)))) rfl (m_watched hm h34 h35 hN hfr j hj hk hs) rfl (Nat.le_of_ble_eq_true rfl) (Nat.le_of_ble_eq_true rfl) ?_
  refine j_aload_n iX6_canGo_5 rfl ?_
  refine j_V0R okX6_standing lk_X6_151 iX6_canGo_6 (by omega) (by repeat (first | assumption | refine wset_ne (by decide) ?_ | exact wset_lt (by (try simp only [List.length_set]); exact wsome (by assumption)))) rfl (m_standing hm h35 hlp hst) rfl (Nat.le_of_ble_eq_true rfl) (Nat.le_of_ble_eq_true rfl) ?_
  refine j_iconst (v := (-1)) iX6_canGo_9 (by decide) ?_
  refine j_ixor iX6_canGo_10 ?_
  refine j_iandnN iX6_canGo_11 ?_
  refine j_iret iX6_canGo_12 rfl (by first | rfl | exact nar_bI _ | exact nar_bP) (⟨by rw [gol_ad], rfl⟩)
def othF (lp : Nat) (sts : Nat → Nat) (j : Nat) : Nat := ad (stdF lp sts) (2 ^ sts j)
theorem m_others (hm : w[33]? = some (oM bd R C fr lp lps sn sz wh nc nf nl tl sd ik kb kf kl kn hh)) (h35 : w[35]? = some (nA 4 sts)) (hlp : lp ≤ 4) (hst : ∀ i, sts i < 12) (j : Nat) (hj : j < 4) : JR 1 mX6_others [.ref 33, .int (nI j)] w (.int (nI (othF lp sts j))) w := by
  have hx := hst j
  refine j_start (ls := [.ref 33, .int (nI j)]) rfl ?_
  refine j_aload_n iX6_others_0 rfl ?_
  refine j_V0R okX6_standing lk_X6_151 iX6_others_1 (by omega) (by repeat (first | assumption | refine wset_ne (by decide) ?_ | exact wset_lt (by (try simp only [List.length_set]); exact wsome (by assumption)))) rfl (m_standing hm h35 hlp hst) rfl (Nat.le_of_ble_eq_true rfl) (Nat.le_of_ble_eq_true rfl) ?_
  refine j_iconst (v := nI 1) iX6_others_4 (by decide) ?_
  refine j_aload_n iX6_others_5 rfl ?_
  refine j_get fk_X6_13 iX6_others_6 (by repeat (first | assumption | refine wset_ne (by decide) ?_ | exact wset_lt (by (try simp only [List.length_set]); exact wsome (by assumption)))) (by rfl) ?_
  refine j_iload_n iX6_others_9 rfl ?_
  refine j_ialdN iX6_others_10 (by repeat (first | assumption | refine wset_ne (by decide) ?_ | exact wset_lt (by (try simp only [List.length_set]); exact wsome (by assumption)))) (by omega) ?_
  refine j_ishlN iX6_others_11 (by omega) ?_
  refine j_iconst (v := (-1)) iX6_others_12 (by decide) ?_
  refine j_ixor iX6_others_13 ?_
  refine j_iandnN iX6_others_14 ?_
  refine j_iret iX6_others_15 rfl (by first | rfl | exact nar_bI _ | exact nar_bP) (⟨rfl, rfl⟩)
theorem m_whoAt (hm : w[33]? = some (oM bd R C fr lp lps sn sz wh nc nf nl tl sd ik kb kf kl kn hh)) (h35 : w[35]? = some (nA 4 sts)) (hlp : lp ≤ 4) (hst : ∀ i, sts i < 12) (c : Nat) (hc : c < 12) : JR 0 mX6_whoAt [.ref 33, .int (nI c)] w (.int (oN (whoM lp sts c))) w := by
  have L : ∀ (n i : Nat) (o : Option Nat), i + n = lp → J 0 mX6_whoAt 4 [.ref 33, .int (nI c), .int (oN o), .int (nI i)] [] w (fun v u => v = some (.int (oN (fold (fun l who => if sts l = c then some l else who) n i o))) ∧ u = w) := by
    intro n
    induction n with
    | zero =>
      intro i o hi
      refine j_iload_n iX6_whoAt_4 rfl ?_
      refine j_aload_n iX6_whoAt_5 rfl ?_
      refine j_get fk_X6_119 iX6_whoAt_6 (by repeat (first | assumption | refine wset_ne (by decide) ?_ | exact wset_lt (by (try simp only [List.length_set]); exact wsome (by assumption)))) (by rfl) ?_
      refine j_icmp_geN (tgt := 34) iX6_whoAt_9 (by decide) (by omega) (by omega) (fun _ => ?_) (fun hno => by exfalso; omega)
      refine j_iload_n iX6_whoAt_34 rfl ?_
      refine j_iret iX6_whoAt_35 rfl (by first | rfl | exact nar_bI _ | exact nar_bP) (⟨rfl, rfl⟩)
    | succ n ih =>
      intro i o hi
      have hx := hst i
      refine j_iload_n iX6_whoAt_4 rfl ?_
      refine j_aload_n iX6_whoAt_5 rfl ?_
      refine j_get fk_X6_119 iX6_whoAt_6 (by repeat (first | assumption | refine wset_ne (by decide) ?_ | exact wset_lt (by (try simp only [List.length_set]); exact wsome (by assumption)))) (by rfl) ?_
      refine j_icmp_geN (tgt := 34) iX6_whoAt_9 (by decide) (by omega) (by omega) (fun hno => by exfalso; omega) (fun _ => ?_)
      refine j_aload_n iX6_whoAt_12 rfl ?_
      refine j_get fk_X6_13 iX6_whoAt_13 (by repeat (first | assumption | refine wset_ne (by decide) ?_ | exact wset_lt (by (try simp only [List.length_set]); exact wsome (by assumption)))) (by rfl) ?_
      refine j_iload_n iX6_whoAt_16 rfl ?_
      refine j_ialdN iX6_whoAt_17 (by repeat (first | assumption | refine wset_ne (by decide) ?_ | exact wset_lt (by (try simp only [List.length_set]); exact wsome (by assumption)))) (by omega) ?_
      refine j_iload_n iX6_whoAt_18 rfl ?_
      refine j_icmp_neN (tgt := 26) iX6_whoAt_19 (by decide) (by omega) (by omega) (fun h19 => ?_) (fun h19 => ?_)
      · refine j_iload_n iX6_whoAt_26 rfl ?_
        refine j_istore_n iX6_whoAt_27 (by decide) rfl ?_
        dsimp only [List.set]
        refine j_iincN iX6_whoAt_28 rfl (by decide) rfl ?_
        dsimp only [List.set]
        refine j_goto (tgt := 4) iX6_whoAt_31 (by decide) ?_
        first | exact (by have e := ih (i + 1) o (by omega); simp only [fold, if_neg h19]; exact e) | exact (by have e := ih (i + 1) (some i) (by omega); simp only [fold, if_pos h19]; exact e)
      · refine j_iload_n iX6_whoAt_22 rfl ?_
        refine j_goto (tgt := 27) iX6_whoAt_23 (by decide) ?_
        refine j_istore_n iX6_whoAt_27 (by decide) rfl ?_
        dsimp only [List.set]
        refine j_iincN iX6_whoAt_28 rfl (by decide) rfl ?_
        dsimp only [List.set]
        refine j_goto (tgt := 4) iX6_whoAt_31 (by decide) ?_
        first | exact (by have e := ih (i + 1) o (by omega); simp only [fold, if_neg h19]; exact e) | exact (by have e := ih (i + 1) (some i) (by omega); simp only [fold, if_pos h19]; exact e)
  refine j_start (ls := [.ref 33, .int (nI c), .null, .null]) rfl ?_
  refine j_iconst (v := (-1)) iX6_whoAt_0 (by decide) ?_
  refine j_istore_n iX6_whoAt_1 (by decide) rfl ?_
  dsimp only [List.set]
  refine j_iconst (v := nI 0) iX6_whoAt_2 (by decide) ?_
  refine j_istore_n iX6_whoAt_3 (by decide) rfl ?_
  dsimp only [List.set]
  exact L lp 0 none (by omega)
theorem m_watchersOf (hm : w[33]? = some (oM bd R C fr lp lps sn sz wh nc nf nl tl sd ik kb kf kl kn hh)) (h34 : w[34]? = some (nA 4 ks)) (h35 : w[35]? = some (nA 4 sts)) (hN : R * C ≤ 12) (hfr : fr < 4096) (hlp : lp ≤ 4) (hks : ∀ i, ks i < 5) (hsN : ∀ i, i < lp → sts i < R * C) (c : Nat) (hc : c < 12) : JR 4 mX6_watchersOf [.ref 33, .int (nI c)] w (.int (nI (wrsF C (R * C) fr lp ks sts c))) w := by
  have L : ∀ (n i r : Nat), i + n = lp → J 4 mX6_watchersOf 4 [.ref 33, .int (nI c), .int (nI r), .int (nI i)] [] w (fun v u => v = some (.int (nI (fold (fun i r => if (wat C (R * C) fr ks sts i).testBit c = true then r ||| 2 ^ i else r) n i r))) ∧ u = w) := by
    intro n
    induction n with
    | zero =>
      intro i r hi
      refine j_iload_n iX6_watchersOf_4 rfl ?_
      refine j_aload_n iX6_watchersOf_5 rfl ?_
      refine j_get fk_X6_119 iX6_watchersOf_6 (by repeat (first | assumption | refine wset_ne (by decide) ?_ | exact wset_lt (by (try simp only [List.length_set]); exact wsome (by assumption)))) (by rfl) ?_
      refine j_icmp_geN (tgt := 40) iX6_watchersOf_9 (by decide) (by omega) (by omega) (fun _ => ?_) (fun hno => by exfalso; omega)
      refine j_iload_n iX6_watchersOf_40 rfl ?_
      refine j_iret iX6_watchersOf_41 rfl (by first | rfl | exact nar_bI _ | exact nar_bP) (⟨rfl, rfl⟩)
    | succ n ih =>
      intro i r hi
      have hwb := wat_b (C := C) (N := R * C) (ks := ks) (sts := sts) hfr i
      refine j_iload_n iX6_watchersOf_4 rfl ?_
      refine j_aload_n iX6_watchersOf_5 rfl ?_
      refine j_get fk_X6_119 iX6_watchersOf_6 (by repeat (first | assumption | refine wset_ne (by decide) ?_ | exact wset_lt (by (try simp only [List.length_set]); exact wsome (by assumption)))) (by rfl) ?_
      refine j_icmp_geN (tgt := 40) iX6_watchersOf_9 (by decide) (by omega) (by omega) (fun hno => by exfalso; omega) (fun _ => ?_)
      refine j_iload_n iX6_watchersOf_12 rfl ?_
      refine j_aload_n iX6_watchersOf_13 rfl ?_
      refine j_iload_n iX6_watchersOf_14 rfl ?_
      refine j_V1R okX6_watched lk_X6_148 iX6_watchersOf_15 (by omega) (by repeat (first | assumption | refine wset_ne (by decide) ?_ | exact wset_lt (by (try simp only [List.length_set]); exact wsome (by assumption)))) rfl (m_watched hm h34 h35 hN hfr i (by omega) (hks i) (hsN i (by omega))) rfl (Nat.le_of_ble_eq_true rfl) (Nat.le_of_ble_eq_true rfl) ?_
      refine j_iload_n iX6_watchersOf_18 rfl ?_
      refine j_S2R okX6_isIn lk_X6_92 iX6_watchersOf_19 (by omega) (m_isIn _ c (by omega) (by omega)) rfl (Nat.le_of_ble_eq_true rfl) (Nat.le_of_ble_eq_true rfl) ?_
      refine j_if_eqB (tgt := 31) iX6_watchersOf_22 (by decide) (fun h22 => ?_) (fun h22 => ?_)
      · refine j_iconst (v := nI 0) iX6_watchersOf_31 (by decide) ?_
        refine j_iorN iX6_watchersOf_32  ?_
        refine j_istore_n iX6_watchersOf_33 (by decide) rfl ?_
        dsimp only [List.set]
        refine j_iincN iX6_watchersOf_34 rfl (by decide) rfl ?_
        dsimp only [List.set]
        refine j_goto (tgt := 4) iX6_watchersOf_37 (by decide) ?_
        first | exact (by rw [Nat.or_zero]; simpa only [fold, if_neg (nt h22)] using ih (i + 1) r (by omega)) | exact (by simpa only [fold, if_pos h22] using ih (i + 1) (r ||| 2 ^ i) (by omega))
      · refine j_iconst (v := nI 1) iX6_watchersOf_25 (by decide) ?_
        refine j_iload_n iX6_watchersOf_26 rfl ?_
        refine j_ishlN iX6_watchersOf_27 (by omega) ?_
        refine j_goto (tgt := 32) iX6_watchersOf_28 (by decide) ?_
        refine j_iorN iX6_watchersOf_32  ?_
        refine j_istore_n iX6_watchersOf_33 (by decide) rfl ?_
        dsimp only [List.set]
        refine j_iincN iX6_watchersOf_34 rfl (by decide) rfl ?_
        dsimp only [List.set]
        refine j_goto (tgt := 4) iX6_watchersOf_37 (by decide) ?_
        first | exact (by rw [Nat.or_zero]; simpa only [fold, if_neg (nt h22)] using ih (i + 1) r (by omega)) | exact (by simpa only [fold, if_pos h22] using ih (i + 1) (r ||| 2 ^ i) (by omega))
  refine j_start (ls := [.ref 33, .int (nI c), .null, .null]) rfl ?_
  refine j_iconst (v := nI 0) iX6_watchersOf_0 (by decide) ?_
  refine j_istore_n iX6_watchersOf_1 (by decide) rfl ?_
  dsimp only [List.set]
  refine j_iconst (v := nI 0) iX6_watchersOf_2 (by decide) ?_
  refine j_istore_n iX6_watchersOf_3 (by decide) rfl ?_
  dsimp only [List.set]
  exact L lp 0 0 (by omega)
def cellM (C N fr lp : Nat) (ks sts : Nat → Nat) (c y : Nat) : Int32 :=
  match y with
  | 0 => bI (fr.testBit c)
  | 1 => oN (whoM lp sts c)
  | _ => nI (wrsF C N fr lp ks sts c)
theorem m_cellNow (hm : w[33]? = some (oM bd R C fr lp lps sn sz wh nc nf nl tl sd ik kb kf kl kn hh)) (h34 : w[34]? = some (nA 4 ks)) (h35 : w[35]? = some (nA 4 sts)) (hN : R * C ≤ 12) (hfr : fr < 4096) (hlp : lp ≤ 4) (hks : ∀ i, ks i < 5) (hst : ∀ i, sts i < 12) (hsN : ∀ i, i < lp → sts i < R * C) (c y : Nat) (hc : c < 12) (hy : y < 3) : JR 5 mX6_cellNow [.ref 33, .int (nI c), .int (nI y)] w (.int (cellM C (R * C) fr lp ks sts c y)) w := by
  refine j_start (ls := [.ref 33, .int (nI c), .int (nI y)]) rfl ?_
  rcases (show y = 0 ∨ y = 1 ∨ y = 2 by omega) with rfl | rfl | rfl
  · refine j_iload_n iX6_cellNow_0 rfl ?_
    refine j_if_neN (tgt := 15) iX6_cellNow_1 (by decide) (by omega) (fun hno => by exfalso; omega) (fun _ => ?_)
    refine j_aload_n iX6_cellNow_4 rfl ?_
    refine j_get fk_X6_116 iX6_cellNow_5 (by repeat (first | assumption | refine wset_ne (by decide) ?_ | exact wset_lt (by (try simp only [List.length_set]); exact wsome (by assumption)))) (by rfl) ?_
    refine j_iload_n iX6_cellNow_8 rfl ?_
    refine j_ishrN iX6_cellNow_9 (by omega) (by omega) ?_
    refine j_iconst (v := nI 1) iX6_cellNow_10 (by decide) ?_
    refine j_iandBit iX6_cellNow_11 ?_
    refine j_goto (tgt := 33) iX6_cellNow_12 (by decide) ?_
    refine j_iret iX6_cellNow_33 rfl (by first | rfl | exact nar_bI _ | exact nar_bP) (⟨rfl, rfl⟩)
  · refine j_iload_n iX6_cellNow_0 rfl ?_
    refine j_if_neN (tgt := 15) iX6_cellNow_1 (by decide) (by omega) (fun _ => ?_) (fun hno => by exfalso; omega)
    refine j_iload_n iX6_cellNow_15 rfl ?_
    refine j_iconst (v := nI 1) iX6_cellNow_16 (by decide) ?_
    refine j_icmp_neN (tgt := 28) iX6_cellNow_17 (by decide) (by omega) (by omega) (fun hno => by exfalso; omega) (fun _ => ?_)
    refine j_aload_n iX6_cellNow_20 rfl ?_
    refine j_iload_n iX6_cellNow_21 rfl ?_
    refine j_V1R okX6_whoAt lk_X6_173 iX6_cellNow_22 (by omega) (by repeat (first | assumption | refine wset_ne (by decide) ?_ | exact wset_lt (by (try simp only [List.length_set]); exact wsome (by assumption)))) rfl (m_whoAt hm h35 hlp hst c hc) rfl (Nat.le_of_ble_eq_true rfl) (Nat.le_of_ble_eq_true rfl) ?_
    refine j_goto (tgt := 33) iX6_cellNow_25 (by decide) ?_
    refine j_iret iX6_cellNow_33 rfl (by first | rfl | exact nar_bI _ | exact nar_bP) (⟨rfl, rfl⟩)
  · refine j_iload_n iX6_cellNow_0 rfl ?_
    refine j_if_neN (tgt := 15) iX6_cellNow_1 (by decide) (by omega) (fun _ => ?_) (fun hno => by exfalso; omega)
    refine j_iload_n iX6_cellNow_15 rfl ?_
    refine j_iconst (v := nI 1) iX6_cellNow_16 (by decide) ?_
    refine j_icmp_neN (tgt := 28) iX6_cellNow_17 (by decide) (by omega) (by omega) (fun _ => ?_) (fun hno => by exfalso; omega)
    refine j_aload_n iX6_cellNow_28 rfl ?_
    refine j_iload_n iX6_cellNow_29 rfl ?_
    refine j_V1R okX6_watchersOf lk_X6_176 iX6_cellNow_30 (by omega) (by repeat (first | assumption | refine wset_ne (by decide) ?_ | exact wset_lt (by (try simp only [List.length_set]); exact wsome (by assumption)))) rfl (m_watchersOf hm h34 h35 hN hfr hlp hks hsN c hc) rfl (Nat.le_of_ble_eq_true rfl) (Nat.le_of_ble_eq_true rfl) ?_
    refine j_iret iX6_cellNow_33 rfl (by first | rfl | exact nar_bI _ | exact nar_bP) (⟨rfl, rfl⟩)
theorem m_cell_u (hm : w[33]? = some (oM bd R C fr lp lps sn sz wh nc nf nl tl sd ik kb kf kl kn hh)) (hN : R * C ≤ 12) (x y : Int32) (hx : inR x (R * C) = false) : JR 6 mX6_cell [.ref 33, .int x, .int y] w (.int (-101)) w := by
  refine j_start (ls := [.ref 33, .int x, .int y]) rfl ?_
  refine j_aload_n iX6_cell_0 rfl ?_
  refine j_iload_n iX6_cell_1 rfl ?_
  refine j_V1R okX6_isCell lk_X6_179 iX6_cell_2 (by omega) (by repeat (first | assumption | refine wset_ne (by decide) ?_ | exact wset_lt (by (try simp only [List.length_set]); exact wsome (by assumption)))) rfl (m_isCell hm hN x) rfl (Nat.le_of_ble_eq_true rfl) (Nat.le_of_ble_eq_true rfl) ?_
  refine j_if_neB (tgt := 13) iX6_cell_5 (by decide) (fun hno => Bool.noConfusion (hno.symm.trans (show _ = false from hx))) (fun _ => ?_)
  refine j_bipush (v := (-101)) iX6_cell_8 (by decide) ?_
  refine j_goto (tgt := 33) iX6_cell_10 (by decide) ?_
  refine j_iret iX6_cell_33 rfl (by first | rfl | exact nar_bI _ | exact nar_bP) (⟨rfl, rfl⟩)
theorem m_cell_o (hm : w[33]? = some (oM bd R C fr lp lps sn sz wh nc nf nl tl sd ik kb kf kl kn hh)) (hN : R * C ≤ 12) (x y : Int32) (hx : inR x (R * C) = true) (hy : inR y 3 = false) : JR 6 mX6_cell [.ref 33, .int x, .int y] w (.int (-102)) w := by
  refine j_start (ls := [.ref 33, .int x, .int y]) rfl ?_
  refine j_aload_n iX6_cell_0 rfl ?_
  refine j_iload_n iX6_cell_1 rfl ?_
  refine j_V1R okX6_isCell lk_X6_179 iX6_cell_2 (by omega) (by repeat (first | assumption | refine wset_ne (by decide) ?_ | exact wset_lt (by (try simp only [List.length_set]); exact wsome (by assumption)))) rfl (m_isCell hm hN x) rfl (Nat.le_of_ble_eq_true rfl) (Nat.le_of_ble_eq_true rfl) ?_
  refine j_if_neB (tgt := 13) iX6_cell_5 (by decide) (fun _ => ?_) (fun hno => Bool.noConfusion (hno.symm.trans (show _ = true from hx)))
  refine j_iload_n iX6_cell_13 rfl ?_
  refine j_iconst (v := nI 0) iX6_cell_14 (by decide) ?_
  refine j_iconst (v := nI 2) iX6_cell_15 (by decide) ?_
  refine j_S3R okX6_within lk_X6_68 iX6_cell_16 (by omega) (m_within _ _ _) rfl (Nat.le_of_ble_eq_true rfl) (Nat.le_of_ble_eq_true rfl) ?_
  refine j_if_eqB (tgt := 31) iX6_cell_19 (by decide) (fun _ => ?_) (fun hno => Bool.noConfusion (hno.symm.trans (show _ = false from by rw [wi_R (by decide)]; exact hy)))
  refine j_bipush (v := (-102)) iX6_cell_31 (by decide) ?_
  refine j_iret iX6_cell_33 rfl (by first | rfl | exact nar_bI _ | exact nar_bP) (⟨rfl, rfl⟩)
theorem m_cell (hm : w[33]? = some (oM bd R C fr lp lps sn sz wh nc nf nl tl sd ik kb kf kl kn hh)) (h34 : w[34]? = some (nA 4 ks)) (h35 : w[35]? = some (nA 4 sts)) (hN : R * C ≤ 12) (hfr : fr < 4096) (hlp : lp ≤ 4) (hks : ∀ i, ks i < 5) (hst : ∀ i, sts i < 12) (hsN : ∀ i, i < lp → sts i < R * C) (c y : Nat) (hc : c < R * C) (hy : y < 3) : JR 6 mX6_cell [.ref 33, .int (nI c), .int (nI y)] w (.int (cellM C (R * C) fr lp ks sts c y)) w := by
  refine j_start (ls := [.ref 33, .int (nI c), .int (nI y)]) rfl ?_
  refine j_aload_n iX6_cell_0 rfl ?_
  refine j_iload_n iX6_cell_1 rfl ?_
  refine j_V1R okX6_isCell lk_X6_179 iX6_cell_2 (by omega) (by repeat (first | assumption | refine wset_ne (by decide) ?_ | exact wset_lt (by (try simp only [List.length_set]); exact wsome (by assumption)))) rfl (m_isCell hm hN _) rfl (Nat.le_of_ble_eq_true rfl) (Nat.le_of_ble_eq_true rfl) ?_
  refine j_if_neB (tgt := 13) iX6_cell_5 (by decide) (fun _ => ?_) (fun hno => Bool.noConfusion (hno.symm.trans (show _ = true from by rw [inR_nI (by omega) (by omega)]; exact decide_eq_true hc)))
  refine j_iload_n iX6_cell_13 rfl ?_
  refine j_iconst (v := nI 0) iX6_cell_14 (by decide) ?_
  refine j_iconst (v := nI 2) iX6_cell_15 (by decide) ?_
  refine j_S3R okX6_within lk_X6_68 iX6_cell_16 (by omega) (m_within _ _ _) rfl (Nat.le_of_ble_eq_true rfl) (Nat.le_of_ble_eq_true rfl) ?_
  refine j_if_eqB (tgt := 31) iX6_cell_19 (by decide) (fun hno => Bool.noConfusion (hno.symm.trans (show _ = true from by rw [wi_R (by decide), inR_nI (by omega) (by decide)]; exact decide_eq_true hy))) (fun _ => ?_)
  refine j_aload_n iX6_cell_22 rfl ?_
  refine j_iload_n iX6_cell_23 rfl ?_
  refine j_iload_n iX6_cell_24 rfl ?_
  refine j_V2R okX6_cellNow lk_X6_182 iX6_cell_25 (by omega) (by repeat (first | assumption | refine wset_ne (by decide) ?_ | exact wset_lt (by (try simp only [List.length_set]); exact wsome (by assumption)))) rfl (m_cellNow hm h34 h35 hN hfr hlp hks hst hsN c y (by omega) hy) rfl (Nat.le_of_ble_eq_true rfl) (Nat.le_of_ble_eq_true rfl) ?_
  refine j_goto (tgt := 33) iX6_cell_28 (by decide) ?_
  refine j_iret iX6_cell_33 rfl (by first | rfl | exact nar_bI _ | exact nar_bP) (⟨rfl, rfl⟩)
theorem m_as_u (hm : w[33]? = some (oM bd R C fr lp lps sn sz wh nc nf nl tl sd ik kb kf kl kn hh)) (hlp : lp ≤ 4) (x y : Int32) (hx : inR x lp = false) : JR 2 mX6_as [.ref 33, .int x, .int y] w (.int (-101)) w := by
  refine j_start (ls := [.ref 33, .int x, .int y, .null]) rfl ?_
  refine j_aload_n iX6_as_0 rfl ?_
  refine j_iload_n iX6_as_1 rfl ?_
  refine j_V1R okX6_isLeaper lk_X6_166 iX6_as_2 (by omega) (by repeat (first | assumption | refine wset_ne (by decide) ?_ | exact wset_lt (by (try simp only [List.length_set]); exact wsome (by assumption)))) rfl (m_isLeaper hm hlp x) rfl (Nat.le_of_ble_eq_true rfl) (Nat.le_of_ble_eq_true rfl) ?_
  refine j_if_neB (tgt := 11) iX6_as_5 (by decide) (fun hno => Bool.noConfusion (hno.symm.trans (show _ = false from hx))) (fun _ => ?_)
  refine j_bipush (v := (-101)) iX6_as_8 (by decide) ?_
  refine j_iret iX6_as_10 rfl (by first | rfl | exact nar_bI _ | exact nar_bP) (⟨rfl, rfl⟩)
theorem m_as_o (hm : w[33]? = some (oM bd R C fr lp lps sn sz wh nc nf nl tl sd ik kb kf kl kn hh)) (hlp : lp ≤ 4) (x y : Int32) (hx : inR x lp = true) (hy : inR y 5 = false) : JR 2 mX6_as [.ref 33, .int x, .int y] w (.int (-102)) w := by
  refine j_start (ls := [.ref 33, .int x, .int y, .null]) rfl ?_
  refine j_aload_n iX6_as_0 rfl ?_
  refine j_iload_n iX6_as_1 rfl ?_
  refine j_V1R okX6_isLeaper lk_X6_166 iX6_as_2 (by omega) (by repeat (first | assumption | refine wset_ne (by decide) ?_ | exact wset_lt (by (try simp only [List.length_set]); exact wsome (by assumption)))) rfl (m_isLeaper hm hlp x) rfl (Nat.le_of_ble_eq_true rfl) (Nat.le_of_ble_eq_true rfl) ?_
  refine j_if_neB (tgt := 11) iX6_as_5 (by decide) (fun _ => ?_) (fun hno => Bool.noConfusion (hno.symm.trans (show _ = true from hx)))
  refine j_iload_n iX6_as_11 rfl ?_
  refine j_iconst (v := nI 0) iX6_as_12 (by decide) ?_
  refine j_iconst (v := nI 4) iX6_as_13 (by decide) ?_
  refine j_S3R okX6_within lk_X6_68 iX6_as_14 (by omega) (m_within _ _ _) rfl (Nat.le_of_ble_eq_true rfl) (Nat.le_of_ble_eq_true rfl) ?_
  refine j_if_neB (tgt := 23) iX6_as_17 (by decide) (fun hno => Bool.noConfusion (hno.symm.trans (show _ = false from by rw [wi_R (by decide)]; exact hy))) (fun _ => ?_)
  refine j_bipush (v := (-102)) iX6_as_20 (by decide) ?_
  refine j_iret iX6_as_22 rfl (by first | rfl | exact nar_bI _ | exact nar_bP) (⟨rfl, rfl⟩)
theorem m_as (hm : w[33]? = some (oM bd R C fr lp lps sn sz wh nc nf nl tl sd ik kb kf kl kn hh)) (h34 : w[34]? = some (nA 4 ks)) (hlp : lp ≤ 4) (hks : ∀ i, ks i < 5) (j k : Nat) (hj : j < lp) (hk : k < 5) : JR 2 mX6_as [.ref 33, .int (nI j), .int (nI k)] w (.int (if asB (ks j) k = true then nI j else -1)) w := by
  have hkj := hks j
  refine j_start (ls := [.ref 33, .int (nI j), .int (nI k), .null]) rfl ?_
  refine j_aload_n iX6_as_0 rfl ?_
  refine j_iload_n iX6_as_1 rfl ?_
  refine j_V1R okX6_isLeaper lk_X6_166 iX6_as_2 (by omega) (by repeat (first | assumption | refine wset_ne (by decide) ?_ | exact wset_lt (by (try simp only [List.length_set]); exact wsome (by assumption)))) rfl (m_isLeaper hm hlp _) rfl (Nat.le_of_ble_eq_true rfl) (Nat.le_of_ble_eq_true rfl) ?_
  refine j_if_neB (tgt := 11) iX6_as_5 (by decide) (fun _ => ?_) (fun hno => Bool.noConfusion (hno.symm.trans (show _ = true from by rw [inR_nI (by omega) (by omega)]; exact decide_eq_true hj)))
  refine j_iload_n iX6_as_11 rfl ?_
  refine j_iconst (v := nI 0) iX6_as_12 (by decide) ?_
  refine j_iconst (v := nI 4) iX6_as_13 (by decide) ?_
  refine j_S3R okX6_within lk_X6_68 iX6_as_14 (by omega) (m_within _ _ _) rfl (Nat.le_of_ble_eq_true rfl) (Nat.le_of_ble_eq_true rfl) ?_
  refine j_if_neB (tgt := 23) iX6_as_17 (by decide) (fun _ => ?_) (fun hno => Bool.noConfusion (hno.symm.trans (show _ = true from by rw [wi_R (by decide), inR_nI (by omega) (by decide)]; exact decide_eq_true hk)))
  refine j_aload_n iX6_as_23 rfl ?_
  refine j_get fk_X6_7 iX6_as_24 (by repeat (first | assumption | refine wset_ne (by decide) ?_ | exact wset_lt (by (try simp only [List.length_set]); exact wsome (by assumption)))) (by rfl) ?_
  refine j_iload_n iX6_as_27 rfl ?_
  refine j_ialdN iX6_as_28 (by repeat (first | assumption | refine wset_ne (by decide) ?_ | exact wset_lt (by (try simp only [List.length_set]); exact wsome (by assumption)))) (by omega) ?_
  refine j_istore_n iX6_as_29 (by decide) rfl ?_
  dsimp only [List.set]
  refine j_iload_n iX6_as_30 rfl ?_
  refine j_if_eqN (tgt := 49) iX6_as_31 (by decide) (by omega) (fun h31 => ?_) (fun h31 => ?_)
  · refine j_iload_n iX6_as_49 rfl ?_
    refine j_goto (tgt := 54) iX6_as_50 (by decide) ?_
    refine j_iret iX6_as_54 rfl (by first | rfl | exact nar_bI _ | exact nar_bP) (⟨by first | (rw [if_pos (show asB (ks j) k = true by unfold asB; rw [decide_eq_true h31]; rfl)]) | (rw [if_pos (show asB (ks j) k = true by unfold asB; rw [decide_eq_true h36.symm]; simp)]) | (rw [if_pos (show asB (ks j) k = true by unfold asB; rw [decide_eq_true h41, decide_eq_true h46]; simp)]) | (rw [if_neg (show ¬ asB (ks j) k = true by unfold asB; rw [decide_eq_false h31, decide_eq_false (fun z : k = ks j => h36 z.symm), decide_eq_false h41]; simp)]) | (rw [if_neg (show ¬ asB (ks j) k = true by unfold asB; rw [decide_eq_false h31, decide_eq_false (fun z : k = ks j => h36 z.symm), decide_eq_false h46]; simp)]), rfl⟩)
  · refine j_iload_n iX6_as_34 rfl ?_
    refine j_iload_n iX6_as_35 rfl ?_
    refine j_icmp_eqN (tgt := 49) iX6_as_36 (by decide) (by omega) (by omega) (fun h36 => ?_) (fun h36 => ?_)
    · refine j_iload_n iX6_as_49 rfl ?_
      refine j_goto (tgt := 54) iX6_as_50 (by decide) ?_
      refine j_iret iX6_as_54 rfl (by first | rfl | exact nar_bI _ | exact nar_bP) (⟨by first | (rw [if_pos (show asB (ks j) k = true by unfold asB; rw [decide_eq_true h31]; rfl)]) | (rw [if_pos (show asB (ks j) k = true by unfold asB; rw [decide_eq_true h36.symm]; simp)]) | (rw [if_pos (show asB (ks j) k = true by unfold asB; rw [decide_eq_true h41, decide_eq_true h46]; simp)]) | (rw [if_neg (show ¬ asB (ks j) k = true by unfold asB; rw [decide_eq_false h31, decide_eq_false (fun z : k = ks j => h36 z.symm), decide_eq_false h41]; simp)]) | (rw [if_neg (show ¬ asB (ks j) k = true by unfold asB; rw [decide_eq_false h31, decide_eq_false (fun z : k = ks j => h36 z.symm), decide_eq_false h46]; simp)]), rfl⟩)
    · refine j_iload_n iX6_as_39 rfl ?_
      refine j_iconst (v := nI 1) iX6_as_40 (by decide) ?_
      refine j_icmp_neN (tgt := 53) iX6_as_41 (by decide) (by omega) (by omega) (fun h41 => ?_) (fun h41 => ?_)
      · refine j_iconst (v := (-1)) iX6_as_53 (by decide) ?_
        refine j_iret iX6_as_54 rfl (by first | rfl | exact nar_bI _ | exact nar_bP) (⟨by first | (rw [if_pos (show asB (ks j) k = true by unfold asB; rw [decide_eq_true h31]; rfl)]) | (rw [if_pos (show asB (ks j) k = true by unfold asB; rw [decide_eq_true h36.symm]; simp)]) | (rw [if_pos (show asB (ks j) k = true by unfold asB; rw [decide_eq_true h41, decide_eq_true h46]; simp)]) | (rw [if_neg (show ¬ asB (ks j) k = true by unfold asB; rw [decide_eq_false h31, decide_eq_false (fun z : k = ks j => h36 z.symm), decide_eq_false h41]; simp)]) | (rw [if_neg (show ¬ asB (ks j) k = true by unfold asB; rw [decide_eq_false h31, decide_eq_false (fun z : k = ks j => h36 z.symm), decide_eq_false h46]; simp)]), rfl⟩)
      · refine j_iload_n iX6_as_44 rfl ?_
        refine j_iconst (v := nI 4) iX6_as_45 (by decide) ?_
        refine j_icmp_neN (tgt := 53) iX6_as_46 (by decide) (by omega) (by omega) (fun h46 => ?_) (fun h46 => ?_)
        · refine j_iconst (v := (-1)) iX6_as_53 (by decide) ?_
          refine j_iret iX6_as_54 rfl (by first | rfl | exact nar_bI _ | exact nar_bP) (⟨by first | (rw [if_pos (show asB (ks j) k = true by unfold asB; rw [decide_eq_true h31]; rfl)]) | (rw [if_pos (show asB (ks j) k = true by unfold asB; rw [decide_eq_true h36.symm]; simp)]) | (rw [if_pos (show asB (ks j) k = true by unfold asB; rw [decide_eq_true h41, decide_eq_true h46]; simp)]) | (rw [if_neg (show ¬ asB (ks j) k = true by unfold asB; rw [decide_eq_false h31, decide_eq_false (fun z : k = ks j => h36 z.symm), decide_eq_false h41]; simp)]) | (rw [if_neg (show ¬ asB (ks j) k = true by unfold asB; rw [decide_eq_false h31, decide_eq_false (fun z : k = ks j => h36 z.symm), decide_eq_false h46]; simp)]), rfl⟩)
        · refine j_iload_n iX6_as_49 rfl ?_
          refine j_goto (tgt := 54) iX6_as_50 (by decide) ?_
          refine j_iret iX6_as_54 rfl (by first | rfl | exact nar_bI _ | exact nar_bP) (⟨by first | (rw [if_pos (show asB (ks j) k = true by unfold asB; rw [decide_eq_true h31]; rfl)]) | (rw [if_pos (show asB (ks j) k = true by unfold asB; rw [decide_eq_true h36.symm]; simp)]) | (rw [if_pos (show asB (ks j) k = true by unfold asB; rw [decide_eq_true h41, decide_eq_true h46]; simp)]) | (rw [if_neg (show ¬ asB (ks j) k = true by unfold asB; rw [decide_eq_false h31, decide_eq_false (fun z : k = ks j => h36 z.symm), decide_eq_false h41]; simp)]) | (rw [if_neg (show ¬ asB (ks j) k = true by unfold asB; rw [decide_eq_false h31, decide_eq_false (fun z : k = ks j => h36 z.symm), decide_eq_false h46]; simp)]), rfl⟩)
theorem m_aroundAll (hm : w[33]? = some (oM bd R C fr lp lps sn sz wh nc nf nl tl sd ik kb kf kl kn hh)) (hN : R * C ≤ 12) (hfr : fr < 4096) (k S : Nat) (hk : k < 5) (hS : S < 2 ^ 31) : JR 3 mX6_aroundAll [.ref 33, .int (nI k), .int (nI S)] w (.int (nI (spread (fanF C (R * C) k) S &&& fr))) w := by
  have L : ∀ (n c r : Nat), c + n = R * C → J 3 mX6_aroundAll 5 [.ref 33, .int (nI k), .int (nI S), .int (nI r), .int (nI c)] [] w (fun v u => v = some (.int (nI (fold (fun c r => r ||| (if S.testBit c = true then fanF C (R * C) k c &&& fr else 0)) n c r))) ∧ u = w) := by
    intro n
    induction n with
    | zero =>
      intro c r hc
      refine j_iload iX6_aroundAll_5 rfl ?_
      refine j_aload_n iX6_aroundAll_7 rfl ?_
      refine j_V0R okX6_cells lk_X6_131 iX6_aroundAll_8 (by omega) (by repeat (first | assumption | refine wset_ne (by decide) ?_ | exact wset_lt (by (try simp only [List.length_set]); exact wsome (by assumption)))) rfl (m_cells hm) rfl (Nat.le_of_ble_eq_true rfl) (Nat.le_of_ble_eq_true rfl) ?_
      refine j_icmp_geN (tgt := 43) iX6_aroundAll_11 (by decide) (by omega) (by omega) (fun _ => ?_) (fun hno => by exfalso; omega)
      refine j_iload_n iX6_aroundAll_43 rfl ?_
      refine j_iret iX6_aroundAll_44 rfl (by first | rfl | exact nar_bI _ | exact nar_bP) (⟨rfl, rfl⟩)
    | succ n ih =>
      intro c r hc
      refine j_iload iX6_aroundAll_5 rfl ?_
      refine j_aload_n iX6_aroundAll_7 rfl ?_
      refine j_V0R okX6_cells lk_X6_131 iX6_aroundAll_8 (by omega) (by repeat (first | assumption | refine wset_ne (by decide) ?_ | exact wset_lt (by (try simp only [List.length_set]); exact wsome (by assumption)))) rfl (m_cells hm) rfl (Nat.le_of_ble_eq_true rfl) (Nat.le_of_ble_eq_true rfl) ?_
      refine j_icmp_geN (tgt := 43) iX6_aroundAll_11 (by decide) (by omega) (by omega) (fun hno => by exfalso; omega) (fun _ => ?_)
      refine j_iload_n iX6_aroundAll_14 rfl ?_
      refine j_iload_n iX6_aroundAll_15 rfl ?_
      refine j_iload iX6_aroundAll_16 rfl ?_
      refine j_S2R okX6_isIn lk_X6_92 iX6_aroundAll_18 (by omega) (m_isIn S c hS (by omega)) rfl (Nat.le_of_ble_eq_true rfl) (Nat.le_of_ble_eq_true rfl) ?_
      refine j_if_eqB (tgt := 34) iX6_aroundAll_21 (by decide) (fun h21 => ?_) (fun h21 => ?_)
      · refine j_iconst (v := nI 0) iX6_aroundAll_34 (by decide) ?_
        refine j_iorN iX6_aroundAll_35  ?_
        refine j_istore_n iX6_aroundAll_36 (by decide) rfl ?_
        dsimp only [List.set]
        refine j_iincN iX6_aroundAll_37 rfl (by decide) rfl ?_
        dsimp only [List.set]
        refine j_goto (tgt := 5) iX6_aroundAll_40 (by decide) ?_
        first | exact (by simpa only [fold, if_neg (nt h21)] using ih (c + 1) (r ||| 0) (by omega)) | exact (by simpa only [fold, if_pos h21] using ih (c + 1) (r ||| (fanF C (R * C) k c &&& fr)) (by omega))
      · refine j_aload_n iX6_aroundAll_24 rfl ?_
        refine j_iload_n iX6_aroundAll_25 rfl ?_
        refine j_iload iX6_aroundAll_26 rfl ?_
        refine j_V2R okX6_around lk_X6_145 iX6_aroundAll_28 (by omega) (by repeat (first | assumption | refine wset_ne (by decide) ?_ | exact wset_lt (by (try simp only [List.length_set]); exact wsome (by assumption)))) rfl (m_around hm hN hfr k c hk (by omega)) rfl (Nat.le_of_ble_eq_true rfl) (Nat.le_of_ble_eq_true rfl) ?_
        refine j_goto (tgt := 35) iX6_aroundAll_31 (by decide) ?_
        refine j_iorN iX6_aroundAll_35  ?_
        refine j_istore_n iX6_aroundAll_36 (by decide) rfl ?_
        dsimp only [List.set]
        refine j_iincN iX6_aroundAll_37 rfl (by decide) rfl ?_
        dsimp only [List.set]
        refine j_goto (tgt := 5) iX6_aroundAll_40 (by decide) ?_
        first | exact (by simpa only [fold, if_neg (nt h21)] using ih (c + 1) (r ||| 0) (by omega)) | exact (by simpa only [fold, if_pos h21] using ih (c + 1) (r ||| (fanF C (R * C) k c &&& fr)) (by omega))
  refine j_start (ls := [.ref 33, .int (nI k), .int (nI S), .null, .null]) rfl ?_
  refine j_iconst (v := nI 0) iX6_aroundAll_0 (by decide) ?_
  refine j_istore_n iX6_aroundAll_1 (by decide) rfl ?_
  dsimp only [List.set]
  refine j_iconst (v := nI 0) iX6_aroundAll_2 (by decide) ?_
  refine j_istore iX6_aroundAll_3 (by decide) rfl ?_
  dsimp only [List.set]
  exact (by rw [← ar_all hN]; exact L (R * C) 0 0 (by omega))
theorem we_eq (C N fr lp : Nat) (ks sts : Nat → Nat) : ad (fold (fun l r => r ||| wat C N fr ks sts l) lp 0 0) (stdF lp sts) = weF C N fr lp ks sts := tb_ext fun b => by
  unfold weF
  rw [ad_tbP, foldOr_tb, foldOr_tb, Nat.zero_testBit]
  constructor
  · rintro ⟨h | ⟨j, h1, h2, h3⟩, h4⟩
    · cases h
    · exact Or.inr ⟨j, h1, h2, by rw [gol_ad, ad_tbP]; exact ⟨h3, h4⟩⟩
  · rintro (h | ⟨j, h1, h2, h3⟩)
    · cases h
    · rw [gol_ad, ad_tbP] at h3
      exact ⟨Or.inr ⟨j, h1, h2, h3.1⟩, h3.2⟩
theorem m_watchedFree (hm : w[33]? = some (oM bd R C fr lp lps sn sz wh nc nf nl tl sd ik kb kf kl kn hh)) (h34 : w[34]? = some (nA 4 ks)) (h35 : w[35]? = some (nA 4 sts)) (hN : R * C ≤ 12) (hfr : fr < 4096) (hlp : lp ≤ 4) (hks : ∀ i, ks i < 5) (hst : ∀ i, sts i < 12) (hsN : ∀ i, i < lp → sts i < R * C) : JR 4 mX6_watchedFree [.ref 33] w (.int (nI (pop (weF C (R * C) fr lp ks sts)))) w := by
  have hwe := weF_b (C := C) (N := R * C) (lp := lp) (ks := ks) (sts := sts) hfr
  have L : ∀ (n i r : Nat), i + n = lp → fold (fun l r => r ||| wat C (R * C) fr ks sts l) n i r = fold (fun l r => r ||| wat C (R * C) fr ks sts l) lp 0 0 → J 4 mX6_watchedFree 4 [.ref 33, .int (nI r), .int (nI i)] [] w (fun v u => v = some (.int (nI (pop (weF C (R * C) fr lp ks sts)))) ∧ u = w) := by
    intro n
    induction n with
    | zero =>
      intro i r hi he
      have e : r = fold (fun l r => r ||| wat C (R * C) fr ks sts l) lp 0 0 := he
      subst e
      refine j_iload_n iX6_watchedFree_4 rfl ?_
      refine j_aload_n iX6_watchedFree_5 rfl ?_
      refine j_get fk_X6_119 iX6_watchedFree_6 (by repeat (first | assumption | refine wset_ne (by decide) ?_ | exact wset_lt (by (try simp only [List.length_set]); exact wsome (by assumption)))) (by rfl) ?_
      refine j_icmp_geN (tgt := 26) iX6_watchedFree_9 (by decide) (by omega) (by omega) (fun _ => ?_) (fun hno => by exfalso; omega)
      refine j_iload_n iX6_watchedFree_26 rfl ?_
      refine j_aload_n iX6_watchedFree_27 rfl ?_
      refine j_V0R okX6_standing lk_X6_151 iX6_watchedFree_28 (by omega) (by repeat (first | assumption | refine wset_ne (by decide) ?_ | exact wset_lt (by (try simp only [List.length_set]); exact wsome (by assumption)))) rfl (m_standing hm h35 hlp hst) rfl (Nat.le_of_ble_eq_true rfl) (Nat.le_of_ble_eq_true rfl) ?_
      refine j_iconst (v := (-1)) iX6_watchedFree_31 (by decide) ?_
      refine j_ixor iX6_watchedFree_32 ?_
      refine j_iandnN iX6_watchedFree_33 ?_
      refine j_top (y := nI (weF C (R * C) fr lp ks sts)) (by rw [we_eq]) ?_
      refine j_S1R okX6_size lk_X6_185 iX6_watchedFree_34 (by omega) (m_size _ (by omega)) rfl (Nat.le_of_ble_eq_true rfl) (Nat.le_of_ble_eq_true rfl) ?_
      refine j_iret iX6_watchedFree_37 rfl (by first | rfl | exact nar_bI _ | exact nar_bP) (⟨rfl, rfl⟩)
    | succ n ih =>
      intro i r hi he
      refine j_iload_n iX6_watchedFree_4 rfl ?_
      refine j_aload_n iX6_watchedFree_5 rfl ?_
      refine j_get fk_X6_119 iX6_watchedFree_6 (by repeat (first | assumption | refine wset_ne (by decide) ?_ | exact wset_lt (by (try simp only [List.length_set]); exact wsome (by assumption)))) (by rfl) ?_
      refine j_icmp_geN (tgt := 26) iX6_watchedFree_9 (by decide) (by omega) (by omega) (fun hno => by exfalso; omega) (fun _ => ?_)
      refine j_iload_n iX6_watchedFree_12 rfl ?_
      refine j_aload_n iX6_watchedFree_13 rfl ?_
      refine j_iload_n iX6_watchedFree_14 rfl ?_
      refine j_V1R okX6_watched lk_X6_148 iX6_watchedFree_15 (by omega) (by repeat (first | assumption | refine wset_ne (by decide) ?_ | exact wset_lt (by (try simp only [List.length_set]); exact wsome (by assumption)))) rfl (m_watched hm h34 h35 hN hfr i (by omega) (hks i) (hsN i (by omega))) rfl (Nat.le_of_ble_eq_true rfl) (Nat.le_of_ble_eq_true rfl) ?_
      refine j_iorN iX6_watchedFree_18  ?_
      refine j_istore_n iX6_watchedFree_19 (by decide) rfl ?_
      dsimp only [List.set]
      refine j_iincN iX6_watchedFree_20 rfl (by decide) rfl ?_
      dsimp only [List.set]
      refine j_goto (tgt := 4) iX6_watchedFree_23 (by decide) ?_
      exact ih (i + 1) _ (by omega) he
  refine j_start (ls := [.ref 33, .null, .null]) rfl ?_
  refine j_iconst (v := nI 0) iX6_watchedFree_0 (by decide) ?_
  refine j_istore_n iX6_watchedFree_1 (by decide) rfl ?_
  dsimp only [List.set]
  refine j_iconst (v := nI 0) iX6_watchedFree_2 (by decide) ?_
  refine j_istore_n iX6_watchedFree_3 (by decide) rfl ?_
  dsimp only [List.set]
  exact L lp 0 0 (by omega) rfl
def countM (R C fr lp lps sn sz bd : Nat) (ks sts : Nat → Nat) (y : Nat) : Nat := countV R C fr lp lps sn sz bd ks sts y
theorem m_howMany_o (y : Int32) (hy : inR y 9 = false) : JR 5 mX6_howMany [.ref 33, .int y] w (.int (-102)) w := by
  have hy2 := inR_int (by decide) hy
  refine j_start (ls := [.ref 33, .int y]) rfl ?_
  refine j_iload_n iX6_howMany_0 rfl ?_
  refine j_tswOut (tgt := 100) iX6_howMany_1 (by omega) (by decide) ?_
  refine j_bipush (v := (-102)) iX6_howMany_100 (by decide) ?_
  refine j_iret iX6_howMany_102 rfl (by first | rfl | exact nar_bI _ | exact nar_bP) (⟨rfl, rfl⟩)
theorem m_howMany (hm : w[33]? = some (oM bd R C fr lp lps sn sz wh nc nf nl tl sd ik kb kf kl kn hh)) (h34 : w[34]? = some (nA 4 ks)) (h35 : w[35]? = some (nA 4 sts)) (hN : R * C ≤ 12) (hfr : fr < 4096) (hlp : lp ≤ 4) (hks : ∀ i, ks i < 5) (hst : ∀ i, sts i < 12) (hsN : ∀ i, i < lp → sts i < R * C) (y : Nat) (hy : y < 9) : JR 5 mX6_howMany [.ref 33, .int (nI y)] w (.int (nI (countV R C fr lp lps sn sz bd ks sts y))) w := by
  refine j_start (ls := [.ref 33, .int (nI y)]) rfl ?_
  rcases (show y = 0 ∨ y = 1 ∨ y = 2 ∨ y = 3 ∨ y = 4 ∨ y = 5 ∨ y = 6 ∨ y = 7 ∨ y = 8 by omega) with rfl | rfl | rfl | rfl | rfl | rfl | rfl | rfl | rfl
  · refine j_iload_n iX6_howMany_0 rfl ?_
    refine j_tswIn (off := 51) (tgt := 52) iX6_howMany_1 (by decide) (by decide) (by decide) (by decide) ?_
    refine j_aload_n iX6_howMany_52 rfl ?_
    refine j_get fk_X6_110 iX6_howMany_53 (by repeat (first | assumption | refine wset_ne (by decide) ?_ | exact wset_lt (by (try simp only [List.length_set]); exact wsome (by assumption)))) (by rfl) ?_
    refine j_iret iX6_howMany_56 rfl (by first | rfl | exact nar_bI _ | exact nar_bP) (⟨rfl, rfl⟩)
  · refine j_iload_n iX6_howMany_0 rfl ?_
    refine j_tswIn (off := 56) (tgt := 57) iX6_howMany_1 (by decide) (by decide) (by decide) (by decide) ?_
    refine j_aload_n iX6_howMany_57 rfl ?_
    refine j_get fk_X6_113 iX6_howMany_58 (by repeat (first | assumption | refine wset_ne (by decide) ?_ | exact wset_lt (by (try simp only [List.length_set]); exact wsome (by assumption)))) (by rfl) ?_
    refine j_iret iX6_howMany_61 rfl (by first | rfl | exact nar_bI _ | exact nar_bP) (⟨rfl, rfl⟩)
  · refine j_iload_n iX6_howMany_0 rfl ?_
    refine j_tswIn (off := 61) (tgt := 62) iX6_howMany_1 (by decide) (by decide) (by decide) (by decide) ?_
    refine j_aload_n iX6_howMany_62 rfl ?_
    refine j_get fk_X6_116 iX6_howMany_63 (by repeat (first | assumption | refine wset_ne (by decide) ?_ | exact wset_lt (by (try simp only [List.length_set]); exact wsome (by assumption)))) (by rfl) ?_
    refine j_S1R okX6_size lk_X6_185 iX6_howMany_66 (by omega) (m_size fr (by omega)) rfl (Nat.le_of_ble_eq_true rfl) (Nat.le_of_ble_eq_true rfl) ?_
    refine j_iret iX6_howMany_69 rfl (by first | rfl | exact nar_bI _ | exact nar_bP) (⟨rfl, rfl⟩)
  · refine j_iload_n iX6_howMany_0 rfl ?_
    refine j_tswIn (off := 69) (tgt := 70) iX6_howMany_1 (by decide) (by decide) (by decide) (by decide) ?_
    refine j_aload_n iX6_howMany_70 rfl ?_
    refine j_get fk_X6_119 iX6_howMany_71 (by repeat (first | assumption | refine wset_ne (by decide) ?_ | exact wset_lt (by (try simp only [List.length_set]); exact wsome (by assumption)))) (by rfl) ?_
    refine j_iret iX6_howMany_74 rfl (by first | rfl | exact nar_bI _ | exact nar_bP) (⟨rfl, rfl⟩)
  · refine j_iload_n iX6_howMany_0 rfl ?_
    refine j_tswIn (off := 74) (tgt := 75) iX6_howMany_1 (by decide) (by decide) (by decide) (by decide) ?_
    refine j_aload_n iX6_howMany_75 rfl ?_
    refine j_get fk_X6_122 iX6_howMany_76 (by repeat (first | assumption | refine wset_ne (by decide) ?_ | exact wset_lt (by (try simp only [List.length_set]); exact wsome (by assumption)))) (by rfl) ?_
    refine j_iret iX6_howMany_79 rfl (by first | rfl | exact nar_bI _ | exact nar_bP) (⟨rfl, rfl⟩)
  · refine j_iload_n iX6_howMany_0 rfl ?_
    refine j_tswIn (off := 79) (tgt := 80) iX6_howMany_1 (by decide) (by decide) (by decide) (by decide) ?_
    refine j_aload_n iX6_howMany_80 rfl ?_
    refine j_V0R okX6_watchedFree lk_X6_275 iX6_howMany_81 (by omega) (by repeat (first | assumption | refine wset_ne (by decide) ?_ | exact wset_lt (by (try simp only [List.length_set]); exact wsome (by assumption)))) rfl (m_watchedFree hm h34 h35 hN hfr hlp hks hst hsN) rfl (Nat.le_of_ble_eq_true rfl) (Nat.le_of_ble_eq_true rfl) ?_
    refine j_iret iX6_howMany_84 rfl (by first | rfl | exact nar_bI _ | exact nar_bP) (⟨rfl, rfl⟩)
  · refine j_iload_n iX6_howMany_0 rfl ?_
    refine j_tswIn (off := 84) (tgt := 85) iX6_howMany_1 (by decide) (by decide) (by decide) (by decide) ?_
    refine j_aload_n iX6_howMany_85 rfl ?_
    refine j_get fk_X6_128 iX6_howMany_86 (by repeat (first | assumption | refine wset_ne (by decide) ?_ | exact wset_lt (by (try simp only [List.length_set]); exact wsome (by assumption)))) (by rfl) ?_
    refine j_iret iX6_howMany_89 rfl (by first | rfl | exact nar_bI _ | exact nar_bP) (⟨rfl, rfl⟩)
  · refine j_iload_n iX6_howMany_0 rfl ?_
    refine j_tswIn (off := 89) (tgt := 90) iX6_howMany_1 (by decide) (by decide) (by decide) (by decide) ?_
    refine j_aload_n iX6_howMany_90 rfl ?_
    refine j_get fk_X6_72 iX6_howMany_91 (by repeat (first | assumption | refine wset_ne (by decide) ?_ | exact wset_lt (by (try simp only [List.length_set]); exact wsome (by assumption)))) (by rfl) ?_
    refine j_iret iX6_howMany_94 rfl (by first | rfl | exact nar_bI _ | exact nar_bP) (⟨rfl, rfl⟩)
  · refine j_iload_n iX6_howMany_0 rfl ?_
    refine j_tswIn (off := 94) (tgt := 95) iX6_howMany_1 (by decide) (by decide) (by decide) (by decide) ?_
    refine j_aload_n iX6_howMany_95 rfl ?_
    refine j_get fk_X6_125 iX6_howMany_96 (by repeat (first | assumption | refine wset_ne (by decide) ?_ | exact wset_lt (by (try simp only [List.length_set]); exact wsome (by assumption)))) (by rfl) ?_
    refine j_iret iX6_howMany_99 rfl (by first | rfl | exact nar_bI _ | exact nar_bP) (⟨rfl, rfl⟩)
theorem m_count_o (hm : w[33]? = some (oM bd R C fr lp lps sn sz wh nc nf nl tl sd ik kb kf kl kn hh)) (y : Int32) (hy : inR y 9 = false) : JR 6 mX6_count [.ref 33, .int y] w (.int (-102)) w := by
  refine j_start (ls := [.ref 33, .int y]) rfl ?_
  refine j_aload_n iX6_count_0 rfl ?_
  refine j_iload_n iX6_count_1 rfl ?_
  refine j_V1R okX6_howMany lk_X6_296 iX6_count_2 (by omega) (by repeat (first | assumption | refine wset_ne (by decide) ?_ | exact wset_lt (by (try simp only [List.length_set]); exact wsome (by assumption)))) rfl (m_howMany_o y hy) rfl (Nat.le_of_ble_eq_true rfl) (Nat.le_of_ble_eq_true rfl) ?_
  refine j_iret iX6_count_5 rfl (by first | rfl | exact nar_bI _ | exact nar_bP) (⟨rfl, rfl⟩)
theorem m_count (hm : w[33]? = some (oM bd R C fr lp lps sn sz wh nc nf nl tl sd ik kb kf kl kn hh)) (h34 : w[34]? = some (nA 4 ks)) (h35 : w[35]? = some (nA 4 sts)) (hN : R * C ≤ 12) (hfr : fr < 4096) (hlp : lp ≤ 4) (hks : ∀ i, ks i < 5) (hst : ∀ i, sts i < 12) (hsN : ∀ i, i < lp → sts i < R * C) (y : Nat) (hy : y < 9) : JR 6 mX6_count [.ref 33, .int (nI y)] w (.int (nI (countV R C fr lp lps sn sz bd ks sts y))) w := by
  refine j_start (ls := [.ref 33, .int (nI y)]) rfl ?_
  refine j_aload_n iX6_count_0 rfl ?_
  refine j_iload_n iX6_count_1 rfl ?_
  refine j_V1R okX6_howMany lk_X6_296 iX6_count_2 (by omega) (by repeat (first | assumption | refine wset_ne (by decide) ?_ | exact wset_lt (by (try simp only [List.length_set]); exact wsome (by assumption)))) rfl (m_howMany hm h34 h35 hN hfr hlp hks hst hsN y hy) rfl (Nat.le_of_ble_eq_true rfl) (Nat.le_of_ble_eq_true rfl) ?_
  refine j_iret iX6_count_5 rfl (by first | rfl | exact nar_bI _ | exact nar_bP) (⟨rfl, rfl⟩)
end
