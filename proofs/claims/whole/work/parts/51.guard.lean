/-! ===== guards ===== -/
def key (S : Nat) : Nat := pop S * 4096 + S
theorem key_inj {A B : Nat} (hA : A < 4096) (hB : B < 4096) (h : key A = key B) : A = B := by unfold key at h; omega
theorem key_sub {A B : Nat} (h : Sub A B) (hB : B < 4096) : key A ≤ key B := by
  rcases pop_sub h hB with e | e
  · rw [e]; exact Nat.le_refl _
  · have := h.le; unfold key; omega
theorem bet_key {best ch : Nat} (h1 : best < 4096) (h2 : ch < 4096) : guardBet best ch = true ↔ key ch < key best := by
  unfold guardBet key
  simp only [Bool.or_eq_true, Bool.and_eq_true, Bool.not_eq_true', decide_eq_true_eq, decide_eq_false_iff_not]
  constructor
  · rintro (h | ⟨h, h3⟩) <;> omega
  · intro h
    by_cases e : pop ch < pop best
    · exact Or.inl e
    · refine Or.inr ⟨?_, ?_⟩ <;> omega
theorem key_le {A B : Nat} (hB : B < 4096) (h : key A ≤ key B) : pop A ≤ pop B := by unfold key at h; omega
theorem key_lt {A B : Nat} (h : pop A < pop B) (hA : A < 4096) : key A ≤ key B := by unfold key; omega
def Dom (f : Nat → Nat) (fr D : Nat) : Prop := Sub D fr ∧ ∀ i, fr.testBit i = true → D.testBit i = true ∨ ∃ c, D.testBit c = true ∧ (f c).testBit i = true
theorem dom_self (f : Nat → Nat) (fr : Nat) : Dom f fr fr := ⟨fun _ h => h, fun _ h => Or.inl h⟩
theorem dom_iff {f : Nat → Nat} {fr S : Nat} (hS : S < 4096) (hs : Sub S fr) : spread f S &&& fr ||| S = fr ↔ Dom f fr S := by
  constructor
  · intro h
    refine ⟨hs, fun i hi => ?_⟩
    rw [← h] at hi
    rcases or_tb.mp hi with q | q
    · obtain ⟨c, -, h2, h3⟩ := spread_tb.mp (and_tb.mp q).1
      exact Or.inr ⟨c, h2, h3⟩
    · exact Or.inl q
  · intro h
    apply tb_ext
    intro i
    constructor
    · intro q
      rcases or_tb.mp q with q | q
      · exact (and_tb.mp q).2
      · exact hs i q
    · intro q
      rcases h.2 i q with z | ⟨c, z1, z2⟩
      · exact or_tb.mpr (Or.inr z)
      · exact or_tb.mpr (Or.inl (and_tb.mpr ⟨spread_tb.mpr ⟨c, tb12 hS z1, z1, z2⟩, q⟩))
theorem gsF_spec {f : Nat → Nat} {fr : Nat} (hfr : fr < 4096) : Dom f fr (gsF f fr) ∧ ∀ T, Dom f fr T → key (gsF f fr) ≤ key T := by
  have h := fold_ind (step := gsStep f fr) (P := fun S b => Dom f fr b ∧ (b = fr ∨ b < S) ∧ ∀ T, T < S → Dom f fr T → key b ≤ key T) (fr + 1) 0 fr
    ⟨dom_self f fr, Or.inl rfl, fun T hT => absurd hT (Nat.not_lt_zero _)⟩ (fun S b _ hS hb => by
      obtain ⟨h1, h3, h4⟩ := hb
      unfold gsStep
      by_cases hc : ad S fr = 0 ∧ pop S < pop b ∧ spread f S &&& fr ||| S = fr
      · rw [if_pos hc]
        have hs := sub_ad.mp hc.1
        refine ⟨(dom_iff (by omega) hs).mp hc.2.2, Or.inr (by omega), fun T hT q => ?_⟩
        by_cases e : T = S
        · subst e; exact Nat.le_refl _
        · exact key_lt (Nat.lt_of_lt_of_le hc.2.1 (key_le (by omega) (h4 T (by omega) q))) (by omega)
      · rw [if_neg hc]
        refine ⟨h1, h3.imp id (fun z => by omega), fun T hT q => ?_⟩
        by_cases e : T = S
        · subst e
          have hn : ¬ pop T < pop b := fun z => hc ⟨sub_ad.mpr q.1, z, (dom_iff (by omega) q.1).mpr q⟩
          rcases h3 with h3 | h3
          · subst h3
            rcases pop_sub q.1 hfr with e | e
            · rw [e]; exact Nat.le_refl _
            · exact absurd e hn
          · unfold key; omega
        · exact h4 T (by omega) q)
  rw [Nat.zero_add] at h
  exact ⟨h.1, fun T q => h.2.2 T (by have := q.1.le; omega) q⟩
/-- chosen covers just what covered tells -/
def Cov (f : Nat → Nat) (fr ch cv : Nat) : Prop := ∀ i, fr.testBit i = true → (cv.testBit i = true ↔ ch.testBit i = true ∨ ∃ c, ch.testBit c = true ∧ (f c).testBit i = true)
theorem guardRec_spec {f : Nat → Nat} (hf : Gr f) {fr : Nat} (hfr : fr < 4096) : ∀ (n ch cv best : Nat), 12 ≤ n + pop ch → Sub ch fr → best < 4096 → Cov f fr ch cv →
    (guardRec f fr n ch cv best = best ∨ Dom f fr (guardRec f fr n ch cv best)) ∧ key (guardRec f fr n ch cv best) ≤ key best ∧ ∀ D, Dom f fr D → Sub ch D → key (guardRec f fr n ch cv best) ≤ key D := by
  intro n
  induction n with
  | zero =>
    intro ch cv best hn hs hb hc
    have hch : ch < 4096 := Nat.lt_of_le_of_lt hs.le hfr
    rw [guardRec_0]
    by_cases h0 : ad fr cv = 0
    · rw [if_pos h0]
      have hd : Dom f fr ch := ⟨hs, fun i hi => (hc i hi).mp (sub_ad.mp h0 i hi)⟩
      by_cases hbt : guardBet best ch = true
      · rw [if_pos hbt]
        have := (bet_key hb hch).mp hbt
        exact ⟨Or.inr hd, by omega, fun D hD q => key_sub q (Nat.lt_of_le_of_lt hD.1.le hfr)⟩
      · rw [if_neg hbt]
        have := mt (bet_key hb hch).mpr hbt
        exact ⟨Or.inl rfl, Nat.le_refl _, fun D hD q => by have := key_sub q (Nat.lt_of_le_of_lt hD.1.le hfr); omega⟩
    · rw [if_neg h0]
      have hp := pop_le best
      refine ⟨Or.inl rfl, Nat.le_refl _, fun D hD q => ?_⟩
      have hDb : D < 4096 := Nat.lt_of_le_of_lt hD.1.le hfr
      have hpD := pop_le D
      rcases pop_sub q hDb with e | e
      · subst e
        exact absurd (sub_ad.mpr fun i hi => (hc i hi).mpr (hD.2 i hi)) h0
      · omega
  | succ n ih =>
    intro ch cv best hn hs hb hc
    have hch : ch < 4096 := Nat.lt_of_le_of_lt hs.le hfr
    rw [guardRec_s]
    by_cases h0 : ad fr cv = 0
    · rw [if_pos h0]
      have hd : Dom f fr ch := ⟨hs, fun i hi => (hc i hi).mp (sub_ad.mp h0 i hi)⟩
      by_cases hbt : guardBet best ch = true
      · rw [if_pos hbt]
        have := (bet_key hb hch).mp hbt
        exact ⟨Or.inr hd, by omega, fun D hD q => key_sub q (Nat.lt_of_le_of_lt hD.1.le hfr)⟩
      · rw [if_neg hbt]
        have := mt (bet_key hb hch).mpr hbt
        exact ⟨Or.inl rfl, Nat.le_refl _, fun D hD q => by have := key_sub q (Nat.lt_of_le_of_lt hD.1.le hfr); omega⟩
    · rw [if_neg h0]
      have hne : ∀ D, Dom f fr D → ch ≠ D := fun D hD e => by
        subst e
        exact h0 (sub_ad.mpr fun i hi => (hc i hi).mpr (hD.2 i hi))
      by_cases hlt : pop ch < pop best
      · rw [if_pos hlt]
        have hl := low_spec (ad_b hfr) h0
        generalize low (ad fr cv) = fi at hl ⊢
        obtain ⟨-, hl1, hl2, -⟩ := hl
        obtain ⟨hl3, hl4⟩ := ad_tbP.mp hl2
        have hchoice : ∀ c, ((2 ^ fi ||| spread f (2 ^ fi)) &&& fr).testBit c = true ↔ fr.testBit c = true ∧ (c = fi ∨ (f fi).testBit c = true) := fun c => by
          rw [and_tb, or_tb, pw_tb, spread_tb]
          constructor
          · rintro ⟨h1 | ⟨x, -, h3, h4⟩, h2⟩
            · exact ⟨h2, Or.inl h1.symm⟩
            · have e := pw_tb.mp h3; subst e; exact ⟨h2, Or.inr h4⟩
          · rintro ⟨h1, h2 | h2⟩
            · exact ⟨Or.inl h2.symm, h1⟩
            · exact ⟨Or.inr ⟨fi, hl1, pw_tb.mpr rfl, h2⟩, h1⟩
        -- a choice isn't chosen
        have hfresh : ∀ c, ((2 ^ fi ||| spread f (2 ^ fi)) &&& fr).testBit c = true → ch.testBit c = false := fun c q => by
          cases e : ch.testBit c with
          | false => rfl
          | true =>
            exfalso
            apply hl4
            rw [hc fi hl3]
            rcases ((hchoice c).mp q).2 with z | z
            · subst z; exact Or.inl e
            · exact Or.inr ⟨c, e, hf.1 _ _ z⟩
        have h := fold_ind (step := fun cell found => if ((2 ^ fi ||| spread f (2 ^ fi)) &&& fr).testBit cell = true then guardRec f fr n (ch ||| 2 ^ cell) (cv ||| f cell ||| 2 ^ cell) found else found)
          (P := fun j x => x < 4096 ∧ (x = best ∨ Dom f fr x) ∧ key x ≤ key best ∧ ∀ c, c < j → ((2 ^ fi ||| spread f (2 ^ fi)) &&& fr).testBit c = true → ∀ D, Dom f fr D → Sub (ch ||| 2 ^ c) D → key x ≤ key D) 12 0 best
          ⟨hb, Or.inl rfl, Nat.le_refl _, fun c hcc => absurd hcc (Nat.not_lt_zero _)⟩ (fun j x _ hj hx => by
            obtain ⟨x1, x2, x3, x4⟩ := hx
            by_cases hcj : ((2 ^ fi ||| spread f (2 ^ fi)) &&& fr).testBit j = true
            · simp only [if_pos hcj]
              have hj2 := (hchoice j).mp hcj
              have hpp := pop_put (by omega : j < 12) (hfresh j hcj)
              have hcov : Cov f fr (ch ||| 2 ^ j) (cv ||| f j ||| 2 ^ j) := fun i hi => by
                rw [or_tb, or_tb, or_tb, hc i hi, pw_tb]
                constructor
                · rintro (((q | ⟨c, q1, q2⟩) | q) | q)
                  · exact Or.inl (Or.inl q)
                  · exact Or.inr ⟨c, or_tb.mpr (Or.inl q1), q2⟩
                  · exact Or.inr ⟨j, or_tb.mpr (Or.inr (pw_tb.mpr rfl)), q⟩
                  · exact Or.inl (Or.inr q)
                · rintro ((q | q) | ⟨c, q1, q2⟩)
                  · exact Or.inl (Or.inl (Or.inl q))
                  · exact Or.inr q
                  · rcases or_tb.mp q1 with z | z
                    · exact Or.inl (Or.inl (Or.inr ⟨c, z, q2⟩))
                    · have e := pw_tb.mp z; subst e; exact Or.inl (Or.inr q2)
              have hsub : Sub (ch ||| 2 ^ j) fr := fun i hi => by
                rcases or_tb.mp hi with q | q
                · exact hs i q
                · have e := pw_tb.mp q; subst e; exact hj2.1
              have r := ih (ch ||| 2 ^ j) (cv ||| f j ||| 2 ^ j) x (by omega) hsub x1 hcov
              have rb := guardRec_b (f := f) (free := fr) n (ch ||| 2 ^ j) (cv ||| f j ||| 2 ^ j) x (or_b hch (pw_b (by omega))) x1
              generalize guardRec f fr n (ch ||| 2 ^ j) (cv ||| f j ||| 2 ^ j) x = y at r rb ⊢
              obtain ⟨r1, r2, r3⟩ := r
              refine ⟨rb, ?_, by omega, fun c hcc q D hD qs => ?_⟩
              · rcases r1 with e | e
                · rw [e]; exact x2
                · exact Or.inr e
              · by_cases e : c = j
                · subst e; exact r3 D hD qs
                · have := x4 c (by omega) q D hD qs; omega
            · simp only [if_neg hcj]
              exact ⟨x1, x2, x3, fun c hcc q D hD qs => by
                by_cases e : c = j
                · subst e; exact absurd q hcj
                · exact x4 c (by omega) q D hD qs⟩)
        rw [Nat.zero_add] at h
        refine ⟨h.2.1, h.2.2.1, fun D hD q => ?_⟩
        have hDb : D < 4096 := Nat.lt_of_le_of_lt hD.1.le hfr
        have : ∃ c, c < 12 ∧ ((2 ^ fi ||| spread f (2 ^ fi)) &&& fr).testBit c = true ∧ D.testBit c = true := by
          rcases hD.2 fi hl3 with z | ⟨c, z1, z2⟩
          · exact ⟨fi, hl1, (hchoice fi).mpr ⟨hl3, Or.inl rfl⟩, z⟩
          · exact ⟨c, tb12 hDb z1, (hchoice c).mpr ⟨hD.1 c z1, Or.inr (hf.1 _ _ z2)⟩, z1⟩
        obtain ⟨c, c1, c2, c3⟩ := this
        exact h.2.2.2 c c1 c2 D hD (fun i hi => by
          rcases or_tb.mp hi with z | z
          · exact q i z
          · have e := pw_tb.mp z; subst e; exact c3)
      · rw [if_neg hlt]
        refine ⟨Or.inl rfl, Nat.le_refl _, fun D hD q => ?_⟩
        have hDb : D < 4096 := Nat.lt_of_le_of_lt hD.1.le hfr
        rcases pop_sub q hDb with e | e
        · exact absurd e (hne D hD)
        · unfold key; omega
theorem guard_eq {f : Nat → Nat} (hf : Gr f) {fr : Nat} (hfr : fr < 4096) : gsF f fr = guardRec f fr 12 0 0 fr := by
  have h1 := gsF_spec (f := f) hfr
  have h2 := guardRec_spec hf hfr 12 0 0 fr (by omega) (fun i hi => absurd hi (of_zero rfl i)) hfr (fun i _ => by
    rw [Nat.zero_testBit]
    exact ⟨fun z => Bool.noConfusion z, fun z => z.elim (fun q => Bool.noConfusion q) (fun ⟨c, q, _⟩ => absurd q (of_zero rfl c))⟩)
  have hb := guardRec_b (f := f) (free := fr) 12 0 0 fr (by decide) hfr
  have hd : Dom f fr (guardRec f fr 12 0 0 fr) := by
    rcases h2.1 with e | e
    · rw [e]; exact dom_self f fr
    · exact e
  have k1 := h1.2 _ hd
  have k2 := h2.2.2 _ h1.1 (fun i hi => absurd hi (of_zero rfl i))
  exact key_inj (gsF_b hfr) hb (by omega)
