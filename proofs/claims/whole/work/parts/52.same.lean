/-! ===== hops, parts, shades, chances, sorts: the class's are the reference's ===== -/
theorem room_tb {fr lp : Nat} {sts : Nat → Nat} {j i : Nat} : (ad fr (othF lp sts j)).testBit i = true ↔ fr.testBit i = true ∧ ∀ l, l < lp → sts l = i → i = sts j := by
  unfold othF
  rw [ad_tbP, ad_tbP, std_tb, pw_tb]
  constructor
  · rintro ⟨h1, h2⟩
    exact ⟨h1, fun l hl e => Classical.byContradiction fun z => h2 ⟨⟨l, hl, e⟩, fun q => z q.symm⟩⟩
  · rintro ⟨h1, h2⟩
    exact ⟨h1, fun ⟨⟨l, hl, e⟩, q⟩ => q (h2 l hl e).symm⟩
/-! hops -/
theorem fw_fix {f : Nat → Nat} {t room : Nat} : ∀ (n i r : Nat), r ||| (spread f r &&& room) = r → ¬ r.testBit t = true → fwFrom f t room n i r = none := by
  intro n
  induction n with
  | zero => intro i r _ _; rfl
  | succ n ih =>
    intro i r h1 h2
    unfold fwFrom
    rw [if_neg h2, h1]
    exact ih _ _ h1 h2
theorem hops_eq {f : Nat → Nat} {fr lp : Nat} {sts : Nat → Nat} {j t : Nat} : ∀ (n i S : Nat), S.testBit (sts j) = true → hmFrom f fr (othF lp sts j) t n i S = fwFrom f t (emptyF fr lp sts) n i S := by
  intro n
  induction n with
  | zero => intro i S _; rfl
  | succ n ih =>
    intro i S hS
    have e : S ||| ad (spread f S &&& fr) (othF lp sts j) = S ||| (spread f S &&& emptyF fr lp sts) := tb_ext fun b => by
      rw [or_tb, or_tb, and_tb, empty_tb]
      have hr := room_tb (fr := fr) (lp := lp) (sts := sts) (j := j) (i := b)
      rw [ad_tbP] at hr
      rw [ad_tbP, and_tb]
      constructor
      · rintro (h | ⟨⟨h1, h2⟩, h3⟩)
        · exact Or.inl h
        · by_cases eb : b = sts j
          · subst eb; exact Or.inl hS
          · exact Or.inr ⟨h1, h2, fun l hl z => eb ((hr.mp ⟨h2, h3⟩).2 l hl z)⟩
      · rintro (h | ⟨h1, h2, h3⟩)
        · exact Or.inl h
        · exact Or.inr ⟨⟨h1, h2⟩, (hr.mpr ⟨h2, fun l hl z => absurd z (h3 l hl)⟩).2⟩
    unfold hmFrom fwFrom
    rw [e]
    by_cases ht : S.testBit t = true
    · rw [if_pos ht, if_pos ht]
    · rw [if_neg ht, if_neg ht]
      by_cases hf : S ||| (spread f S &&& emptyF fr lp sts) = S
      · rw [if_pos hf, hf]
        exact (fw_fix n (i + 1) S hf ht).symm
      · rw [if_neg hf]
        exact ih (i + 1) _ (or_tb.mpr (Or.inl hS))
/-! parts -/
theorem part_sup {f : Nat → Nat} {room i : Nat} : ∀ (n p : Nat), p.testBit i = true → (partFrom f room n p).testBit i = true := by
  intro n
  induction n with
  | zero => intro p h; exact h
  | succ n ih =>
    intro p h
    unfold partFrom
    split
    · exact h
    · exact ih _ (or_tb.mpr (Or.inl h))
theorem pcFrom_0 (f : Nat → Nat) (fr n m : Nat) : pcFrom f fr n 0 m = m := by cases n <;> rfl
theorem low_is {S c : Nat} (hS : S < 4096) (hc : S.testBit c = true) (h : ∀ i, i < c → ¬ S.testBit i = true) : low S = c := by
  have h0 : S ≠ 0 := fun z => of_zero z c hc
  obtain ⟨-, -, h3, h4⟩ := low_spec hS h0
  rcases Nat.lt_trichotomy (low S) c with q | q | q
  · exact absurd h3 (h _ q)
  · exact q
  · rw [h4 c q] at hc; cases hc
theorem pop_drop {A X c : Nat} (hA : A < 4096) (hc : A.testBit c = true) (hX : X.testBit c = true) : pop (ad A X) < pop A := by
  rcases pop_sub (sub_adl A X) hA with e | e
  · exfalso
    have := ad_tb A X c
    rw [e, hc, hX] at this
    cases this
  · exact e
theorem parts_eq0 {f : Nat → Nat} {fr N : Nat} (hN : N ≤ 12) : ∀ (n c left m k : Nat), c + n = N → (∀ i, i < c → ¬ left.testBit i = true) → left < 2 ^ N → pop left ≤ k → (fold (pnStep f fr) n c (left, m)).2 = pcFrom f fr k left m := by
  intro n
  have h12 : 2 ^ N ≤ 4096 := Nat.pow_le_pow_right (n := 2) (by decide) hN
  induction n with
  | zero =>
    intro c left m k hc h0 hl _
    have e : left = 0 := zero_of fun i hi => by
      by_cases q : i < c
      · exact h0 i q hi
      · rw [Nat.testBit_lt_two_pow (Nat.lt_of_lt_of_le hl (Nat.pow_le_pow_right (by decide) (by omega)))] at hi; cases hi
    subst e
    rw [pcFrom_0]; rfl
  | succ n ih =>
    intro c left m k hc h0 hl hk
    simp only [fold]
    by_cases hb : left.testBit c = true
    · have hne : left ≠ 0 := fun z => of_zero z c hb
      have hpp := pop_pos (by omega) hne
      obtain ⟨k', rfl⟩ : ∃ k', k = k' + 1 := ⟨k - 1, by omega⟩
      have hlo := low_is (by omega) hb h0
      have hd := pop_drop (X := partF f fr (2 ^ c)) (by omega) hb (part_sup 12 _ (pw_tb.mpr rfl))
      unfold pcFrom
      rw [if_neg hne, hlo]
      have e1 : pnStep f fr c (left, m) = (ad left (partF f fr (2 ^ c)), m + 1) := by unfold pnStep; rw [if_pos hb]
      rw [e1]
      refine ih (c + 1) _ _ k' (by omega) (fun i hi hz => ?_) (Nat.lt_of_le_of_lt (sub_adl _ _).le hl) (by omega)
      obtain ⟨q1, q2⟩ := ad_tbP.mp hz
      by_cases e : i = c
      · subst e; exact q2 (part_sup 12 _ (pw_tb.mpr rfl))
      · exact h0 i (by omega) q1
    · have e1 : pnStep f fr c (left, m) = (left, m) := by unfold pnStep; rw [if_neg hb]
      rw [e1]
      exact ih (c + 1) _ _ k (by omega) (fun i hi => by
        by_cases e : i = c
        · subst e; exact hb
        · exact h0 i (by omega)) hl hk
theorem parts_eq {f : Nat → Nat} {fr N : Nat} (hN : N ≤ 12) (hfr : fr < 2 ^ N) : pnF f N fr = pcF f fr := parts_eq0 hN N 0 fr 0 12 (by omega) (fun i hi => absurd hi (Nat.not_lt_zero _)) hfr (pop_le _)
/-! shades -/
def Cls (f : Nat → Nat) (fr A B : Nat) : Prop := Sub (spread f A &&& fr) B ∧ Sub (spread f B &&& fr) A
theorem spread_mono {f : Nat → Nat} {A B : Nat} (h : Sub A B) : Sub (spread f A) (spread f B) := fun i hi => by
  obtain ⟨c, h1, h2, h3⟩ := spread_tb.mp hi
  exact spread_tb.mpr ⟨c, h1, h c h2, h3⟩
theorem sh_in {f : Nat → Nat} {fr A B : Nat} (hc : Cls f fr A B) : ∀ (n : Nat) (p : Nat × Nat), Sub p.1 A → Sub p.2 B → Sub (shFrom f fr n p).1 A ∧ Sub (shFrom f fr n p).2 B := by
  intro n
  induction n with
  | zero => intro p h1 h2; exact ⟨h1, h2⟩
  | succ n ih =>
    intro p h1 h2
    have hd : Sub (p.2 ||| (spread f p.1 &&& fr)) B := fun i hi => (or_tb.mp hi).elim (h2 i) (fun q => hc.1 i (and_tb.mpr ⟨spread_mono h1 i (and_tb.mp q).1, (and_tb.mp q).2⟩))
    exact ih _ (fun i hi => (or_tb.mp hi).elim (h1 i) (fun q => hc.2 i (and_tb.mpr ⟨spread_mono hd i (and_tb.mp q).1, (and_tb.mp q).2⟩))) hd
theorem sh_sup {f : Nat → Nat} {fr : Nat} : ∀ (n : Nat) (p : Nat × Nat), Sub p.1 (shFrom f fr n p).1 := by
  intro n
  induction n with
  | zero => intro p i h; exact h
  | succ n ih => intro p i h; exact ih _ i (or_tb.mpr (Or.inl h))
theorem sh_fix {f : Nat → Nat} {fr : Nat} {p : Nat × Nat} (h : shStep f fr p = p) : ∀ n, shFrom f fr n p = p := by
  intro n
  induction n with
  | zero => rfl
  | succ n ih => unfold shFrom; rw [h]; exact ih
theorem sh_cls {f : Nat → Nat} {fr : Nat} (hfr : fr < 4096) : ∀ (n : Nat) (p : Nat × Nat), p.2 < 4096 → Sub (spread f p.2 &&& fr) p.1 → 12 ≤ pop p.2 + n → Cls f fr (shFrom f fr n p).1 (shFrom f fr n p).2 := by
  intro n
  induction n with
  | zero =>
    intro p hb h1 h2
    refine ⟨fun i hi => ?_, h1⟩
    have hi2 : i < 12 := tb12 (and_bR hfr) hi
    have hp := pop_le p.2
    have h4 : pop (4095 : Nat) = 12 := by decide +kernel
    have hs : Sub p.2 4095 := fun q hq => by
      have := tb12 hb hq
      rw [show (4095 : Nat) = 2 ^ 12 - 1 by decide, Nat.testBit_two_pow_sub_one]
      exact decide_eq_true this
    rcases pop_sub hs (by decide) with e | e
    · show p.2.testBit i = true
      rw [e, show (4095 : Nat) = 2 ^ 12 - 1 by decide, Nat.testBit_two_pow_sub_one]
      exact decide_eq_true hi2
    · omega
  | succ n ih =>
    intro p hb h1 h2
    have hb2 : p.2 ||| (spread f p.1 &&& fr) < 4096 := or_b hb (and_bR hfr)
    by_cases e : p.2 ||| (spread f p.1 &&& fr) = p.2
    · have e2 : p.1 ||| (spread f p.2 &&& fr) = p.1 := tb_ext fun i => by rw [or_tb]; exact ⟨fun z => z.elim id (h1 i), Or.inl⟩
      have e3 : shStep f fr p = p := by unfold shStep; rw [e, e2]
      rw [sh_fix e3]
      exact ⟨fun i hi => by rw [← e]; exact or_tb.mpr (Or.inr hi), h1⟩
    · have hg := pop_grow hb2 e
      exact ih (shStep f fr p) hb2 (fun i hi => or_tb.mpr (Or.inr hi)) (by show 12 ≤ pop (p.2 ||| (spread f p.1 &&& fr)) + n; omega)
theorem spread_0 (f : Nat → Nat) : spread f 0 = 0 := zero_of fun i hi => by
  obtain ⟨c, -, h2, -⟩ := spread_tb.mp hi
  exact of_zero rfl c h2
theorem sh_cls1 {f : Nat → Nat} {fr : Nat} (hfr : fr < 4096) (c : Nat) : Cls f fr (shFrom f fr 12 (2 ^ c, 0)).1 (shFrom f fr 12 (2 ^ c, 0)).2 :=
  sh_cls hfr 12 (2 ^ c, 0) (show 0 < 4096 by decide) (fun i hi => by rw [spread_0, Nat.zero_and] at hi; exact absurd hi (of_zero rfl i)) (by omega)
/-- no cell is of both sorts, seen from c -/
def shOK (f : Nat → Nat) (fr c : Nat) : Prop := (shFrom f fr 12 (2 ^ c, 0)).1 &&& (shFrom f fr 12 (2 ^ c, 0)).2 = 0
theorem sh_same {f : Nat → Nat} {fr r c : Nat} (hfr : fr < 4096) (h : shOK f fr r) (hc : (shFrom f fr 12 (2 ^ r, 0)).1.testBit c = true ∨ (shFrom f fr 12 (2 ^ r, 0)).2.testBit c = true) : shOK f fr c := by
  have hcl := sh_cls1 (f := f) hfr r
  unfold shOK at h
  generalize (shFrom f fr 12 (2 ^ r, 0)).1 = L at h hc hcl
  generalize (shFrom f fr 12 (2 ^ r, 0)).2 = D at h hc hcl
  have h0 : Sub 0 L ∧ Sub 0 D := ⟨fun i hi => absurd hi (of_zero rfl i), fun i hi => absurd hi (of_zero rfl i)⟩
  apply zero_of
  intro i hi
  obtain ⟨h1, h2⟩ := and_tb.mp hi
  rcases hc with hc | hc
  · have := sh_in hcl 12 (2 ^ c, 0) (fun j hj => by have e := pw_tb.mp hj; subst e; exact hc) h0.2
    exact of_zero h i (and_tb.mpr ⟨this.1 i h1, this.2 i h2⟩)
  · have := sh_in (A := D) (B := L) ⟨hcl.2, hcl.1⟩ 12 (2 ^ c, 0) (fun j hj => by have e := pw_tb.mp hj; subst e; exact hc) h0.1
    exact of_zero h i (and_tb.mpr ⟨this.2 i h2, this.1 i h1⟩)
theorem ts_iff {f : Nat → Nat} {fr : Nat} (hfr : fr < 4096) : ∀ (n left : Nat), pop left ≤ n → left < 4096 → (tsFrom f fr n left = true ↔ ∀ c, left.testBit c = true → shOK f fr c) := by
  intro n
  induction n with
  | zero =>
    intro left hp hl
    have e : left = 0 := Classical.byContradiction fun z => by have := pop_pos hl z; omega
    subst e
    exact ⟨fun _ c hc => absurd hc (of_zero rfl c), fun _ => rfl⟩
  | succ n ih =>
    intro left hp hl
    unfold tsFrom
    by_cases h0 : left = 0
    · rw [if_pos h0]
      subst h0
      exact ⟨fun _ c hc => absurd hc (of_zero rfl c), fun _ => rfl⟩
    · rw [if_neg h0]
      obtain ⟨-, h1, h2, -⟩ := low_spec hl h0
      by_cases hk : shOK f fr (low left)
      · have hk2 := hk
        unfold shOK at hk2
        rw [if_pos hk2]
        have hsup := sh_sup (f := f) (fr := fr) 12 (2 ^ low left, 0) (low left) (pw_tb.mpr rfl)
        have hd := pop_drop (X := (shFrom f fr 12 (2 ^ low left, 0)).1 ||| (shFrom f fr 12 (2 ^ low left, 0)).2) hl h2 (or_tb.mpr (Or.inl hsup))
        rw [ih _ (by omega) (ad_b hl)]
        constructor
        · intro h c hc
          by_cases q : ((shFrom f fr 12 (2 ^ low left, 0)).1 ||| (shFrom f fr 12 (2 ^ low left, 0)).2).testBit c = true
          · exact sh_same hfr hk (or_tb.mp q)
          · exact h c (ad_tbP.mpr ⟨hc, q⟩)
        · intro h c hc
          exact h c (ad_tbP.mp hc).1
      · have hk2 := hk
        unfold shOK at hk2
        rw [if_neg hk2]
        exact ⟨fun z => Bool.noConfusion z, fun z => absurd (z _ h2) hk⟩
theorem as_iff {f : Nat → Nat} {fr N : Nat} : ∀ (n c : Nat) (q : Bool), fold (asStep f fr) n c q = true ↔ q = true ∧ ∀ d, c ≤ d → d < c + n → fr.testBit d = true → shOK f fr d := by
  intro n
  induction n with
  | zero => intro c q; exact ⟨fun h => ⟨h, fun d h1 h2 => by omega⟩, fun h => h.1⟩
  | succ n ih =>
    intro c q
    simp only [fold]
    rw [ih]
    have e : asStep f fr c q = true ↔ q = true ∧ (fr.testBit c = true → shOK f fr c) := by
      unfold asStep shOK
      by_cases h : fr.testBit c = true
      · rw [if_pos h, Bool.and_eq_true, decide_eq_true_eq]
        exact ⟨fun z => ⟨z.1, fun _ => z.2⟩, fun z => ⟨z.1, z.2 h⟩⟩
      · rw [if_neg h, Bool.and_eq_true, decide_eq_true_eq]
        have z0 : shFrom f fr 12 (0, 0) = (0, 0) := sh_fix (by unfold shStep; simp only [spread_0, Nat.zero_and, Nat.or_zero]) 12
        rw [z0]
        exact ⟨fun z => ⟨z.1, fun y => absurd y h⟩, fun z => ⟨z.1, rfl⟩⟩
    rw [e]
    constructor
    · rintro ⟨⟨h1, h2⟩, h3⟩
      exact ⟨h1, fun d q1 q2 q3 => by
        by_cases e : d = c
        · subst e; exact h2 q3
        · exact h3 d (by omega) (by omega) q3⟩
    · rintro ⟨h1, h2⟩
      exact ⟨⟨h1, fun z => h2 c (Nat.le_refl _) (by omega) z⟩, fun d q1 q2 q3 => h2 d (by omega) (by omega) q3⟩
theorem shades_eq {f : Nat → Nat} {fr N : Nat} (hN : N ≤ 12) (hfr : fr < 2 ^ N) : asF f N fr = tsF f fr := by
  have h12 : 2 ^ N ≤ 4096 := Nat.pow_le_pow_right (n := 2) (by decide) hN
  apply Bool.eq_iff_iff.mpr
  unfold asF tsF
  rw [as_iff (N := N), ts_iff (by omega) 12 fr (pop_le _) (by omega)]
  constructor
  · rintro ⟨-, h⟩ c hc
    refine h c (Nat.zero_le _) ?_ hc
    apply Nat.lt_of_not_le; intro z
    rw [Nat.testBit_lt_two_pow (Nat.lt_of_lt_of_le hfr (Nat.pow_le_pow_right (by decide) (by omega)))] at hc
    cases hc
  · intro h
    exact ⟨rfl, fun d _ _ hd => h d hd⟩
/-! chances -/
theorem sumSet_congr {g h : Nat → Nat} {S : Nat} (he : ∀ c, S.testBit c = true → g c = h c) : sumSet g S = sumSet h S := by
  unfold sumSet
  exact fold_congr _ _ _ (fun j y _ _ => by
    by_cases hb : S.testBit j = true
    · rw [if_pos hb, if_pos hb, he j hb]
    · rw [if_neg hb, if_neg hb])
theorem may_eq {C N fr lp k j c : Nat} {sts : Nat → Nat} (hfs : fr.testBit (sts j) = true) (hd : ∀ i, i < lp → sts i = sts j → i = j) (hj : j < lp) : mayF C N fr k (othF lp sts j) c = fanF C N k c &&& (emptyF fr lp sts ||| 2 ^ sts j) := tb_ext fun b => by
  unfold mayF
  have hr := room_tb (fr := fr) (lp := lp) (sts := sts) (j := j) (i := b)
  rw [ad_tbP] at hr
  rw [ad_tbP, and_tb, and_tb, or_tb, pw_tb, empty_tb]
  constructor
  · rintro ⟨⟨h1, h2⟩, h3⟩
    refine ⟨h1, ?_⟩
    by_cases e : sts j = b
    · exact Or.inr e
    · exact Or.inl ⟨h2, fun l hl z => e ((hr.mp ⟨h2, h3⟩).2 l hl z).symm⟩
  · rintro ⟨h1, ⟨h2, h3⟩ | h2⟩
    · exact ⟨⟨h1, h2⟩, (hr.mpr ⟨h2, fun l hl z => absurd z (h3 l hl)⟩).2⟩
    · subst h2
      exact ⟨⟨h1, hfs⟩, (hr.mpr ⟨hfs, fun _ _ _ => rfl⟩).2⟩
theorem lik_dead {f : Nat → Nat} {t room c : Nat} (h : pop (f c &&& room) = 0) : ∀ n, likF f t room n c = if c = t then 1000000 else 0 := by
  intro n
  induction n with
  | zero => rfl
  | succ n ih =>
    show leapStep f room (likF f t room n) c = _
    unfold leapStep
    rw [if_neg (by omega)]
    exact ih
theorem chance_eq {C N fr lp k j t : Nat} {sts : Nat → Nat} (hfs : fr.testBit (sts j) = true) (hd : ∀ i, i < lp → sts i = sts j → i = j) (hj : j < lp) : ∀ (n c : Nat), c < N → cbF C N fr k (othF lp sts j) t n c = likF (fanF C N k) t (emptyF fr lp sts ||| 2 ^ sts j) n c := by
  intro n
  induction n with
  | zero => intro c _; rfl
  | succ n ih =>
    intro c hc
    have e := may_eq (C := C) (N := N) (k := k) (c := c) hfs hd hj
    show (if pop (mayF C N fr k (othF lp sts j) c) = 0 then (if c = t then 1000000 else 0) else sumSet (cbF C N fr k (othF lp sts j) t n) (mayF C N fr k (othF lp sts j) c) / pop (mayF C N fr k (othF lp sts j) c)) = _
    by_cases hp : pop (mayF C N fr k (othF lp sts j) c) = 0
    · rw [if_pos hp, lik_dead (by rw [← e]; exact hp)]
    · rw [if_neg hp]
      show _ = leapStep (fanF C N k) (emptyF fr lp sts ||| 2 ^ sts j) (likF (fanF C N k) t (emptyF fr lp sts ||| 2 ^ sts j) n) c
      unfold leapStep
      rw [← e, if_pos (by omega)]
      congr 1
      refine sumSet_congr fun b hb => ih b ?_
      exact Nat.lt_of_not_le fun z => by rw [may_out hc z] at hb; cases hb
/-! sorts -/
theorem goers_tb {y z k : Nat} : (goersF y z).testBit k = true ↔ k < 5 ∧ goesF k y z = true := by
  unfold goersF
  rw [fold_or_tb (P := fun k => goesF k y z) 5 0 0 k, Nat.zero_testBit]
  simp
theorem t31 (k : Nat) : (31 : Nat).testBit k = true ↔ k < 5 := by
  rw [show (31 : Nat) = 2 ^ 5 - 1 by decide, Nat.testBit_two_pow_sub_one, decide_eq_true_eq]
theorem see_tb {y z k : Nat} {b : Bool} (hk : k < 5) : (seeS y z b).testBit k = true ↔ goesF k y z = b := by
  unfold seeS
  cases b
  · rw [if_neg (by decide), ad_tbP, t31, goers_tb]
    constructor
    · rintro ⟨-, h⟩
      cases e : goesF k y z with
      | false => rfl
      | true => exact absurd ⟨hk, e⟩ h
    · intro h
      exact ⟨hk, fun q => by rw [h] at q; exact Bool.noConfusion q.2⟩
  · rw [if_pos rfl, goers_tb]
    exact ⟨fun h => h.2, fun h => ⟨hk, h⟩⟩
theorem sorts_tb {sof sso : Nat → Nat} {l k : Nat} : ∀ (n i r : Nat), (sortsFrom sof sso l n i r).testBit k = true ↔ r.testBit k = true ∧ ∀ j, i ≤ j → j < i + n → sof j = l → (sso j).testBit k = true := by
  intro n
  induction n with
  | zero => intro i r; exact ⟨fun h => ⟨h, fun j h1 h2 => by omega⟩, fun h => h.1⟩
  | succ n ih =>
    intro i r
    unfold sortsFrom
    rw [ih]
    constructor
    · rintro ⟨h1, h2⟩
      by_cases e : sof i = l
      · rw [if_pos e] at h1
        obtain ⟨q1, q2⟩ := and_tb.mp h1
        exact ⟨q1, fun j z1 z2 z3 => by
          by_cases e2 : j = i
          · rw [e2]; exact q2
          · exact h2 j (by omega) (by omega) z3⟩
      · rw [if_neg e] at h1
        exact ⟨h1, fun j z1 z2 z3 => by
          by_cases e2 : j = i
          · subst e2; exact absurd z3 e
          · exact h2 j (by omega) (by omega) z3⟩
    · rintro ⟨h1, h2⟩
      refine ⟨?_, fun j z1 z2 z3 => h2 j (by omega) (by omega) z3⟩
      by_cases e : sof i = l
      · rw [if_pos e]; exact and_tb.mpr ⟨h1, h2 i (Nat.le_refl _) (by omega) e⟩
      · rw [if_neg e]; exact h1
theorem si_iff {sof rr cc cn : Nat → Nat} {k l : Nat} : ∀ (n i : Nat) (q : Bool), fold (siStep sof rr cc cn k l) n i q = true ↔ q = true ∧ ∀ j, i ≤ j → j < i + n → sof j = l → goesF k (rr j) (cc j) = decide (cn j = 1) := by
  intro n
  induction n with
  | zero => intro i q; exact ⟨fun h => ⟨h, fun j h1 h2 => by omega⟩, fun h => h.1⟩
  | succ n ih =>
    intro i q
    simp only [fold]
    rw [ih]
    have e : siStep sof rr cc cn k l i q = true ↔ q = true ∧ (sof i = l → goesF k (rr i) (cc i) = decide (cn i = 1)) := by
      unfold siStep
      rw [Bool.and_eq_true, Bool.or_eq_true, decide_eq_true_eq, beq_iff_eq]
      constructor
      · rintro ⟨h1, h2 | h2⟩
        · exact ⟨h1, fun z => absurd z h2⟩
        · exact ⟨h1, fun _ => h2⟩
      · rintro ⟨h1, h2⟩
        by_cases z : sof i = l
        · exact ⟨h1, Or.inr (h2 z)⟩
        · exact ⟨h1, Or.inl z⟩
    rw [e]
    constructor
    · rintro ⟨⟨h1, h2⟩, h3⟩
      exact ⟨h1, fun j z1 z2 z3 => by
        by_cases e2 : j = i
        · subst e2; exact h2 z3
        · exact h3 j (by omega) (by omega) z3⟩
    · rintro ⟨h1, h2⟩
      exact ⟨⟨h1, h2 i (Nat.le_refl _) (by omega)⟩, fun j z1 z2 z3 => h2 j (by omega) (by omega) z3⟩
theorem sorts_eq {sn : Nat} {sof sso rr cc cn : Nat → Nat} (h : ∀ i, i < sn → sso i = seeS (rr i) (cc i) (decide (cn i = 1))) (l : Nat) : smF sn sof rr cc cn l = sortsF sn sof sso l := tb_ext fun k => by
  unfold smF sortsF
  rw [sorts_tb, t31, foldOr_tb, Nat.zero_testBit]
  constructor
  · rintro (q | ⟨j, q1, q2, q3⟩)
    · cases q
    · by_cases e : siF sn sof rr cc cn j l = true
      · rw [if_pos e] at q3
        have e2 := pw_tb.mp q3; subst e2
        refine ⟨by omega, fun i z1 z2 z3 => ?_⟩
        have := ((si_iff sn 0 true).mp e).2 i z1 z2 z3
        rw [h i (by omega), see_tb (by omega)]
        exact this
      · rw [if_neg e, Nat.zero_testBit] at q3; cases q3
  · rintro ⟨q1, q2⟩
    refine Or.inr ⟨k, Nat.zero_le _, by omega, ?_⟩
    have e : siF sn sof rr cc cn k l = true := (si_iff sn 0 true).mpr ⟨rfl, fun i z1 z2 z3 => by
      have := q2 i z1 z2 z3
      rw [h i (by omega), see_tb q1] at this
      exact this⟩
    rw [if_pos e]
    exact pw_tb.mpr rfl
