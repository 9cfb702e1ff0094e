/-! ===== fans as graphs; how many; the best of all sets ===== -/
def Sub (A B : Nat) : Prop := ∀ i, A.testBit i = true → B.testBit i = true
theorem Sub.le {A B : Nat} (h : Sub A B) : A ≤ B := Nat.le_of_testBit h
theorem sub_ad {A B : Nat} : ad A B = 0 ↔ Sub A B := by
  constructor
  · intro h i hi
    cases hb : B.testBit i with
    | true => rfl
    | false =>
      have : (ad A B).testBit i = true := ad_tbP.mpr ⟨hi, by rw [hb]; decide⟩
      rw [h, Nat.zero_testBit] at this; cases this
  · intro h
    apply tb_ext
    intro i
    rw [ad_tbP, Nat.zero_testBit]
    exact ⟨fun z => absurd (h i z.1) z.2, fun z => Bool.noConfusion z⟩
theorem zero_of {A : Nat} (h : ∀ i, ¬ A.testBit i = true) : A = 0 := tb_ext fun i => ⟨fun z => absurd z (h i), fun z => by rw [Nat.zero_testBit] at z; cases z⟩
theorem of_zero {A : Nat} (h : A = 0) (i : Nat) : ¬ A.testBit i = true := by rw [h, Nat.zero_testBit]; decide
theorem tb12 {A i : Nat} (hA : A < 4096) (h : A.testBit i = true) : i < 12 := by
  apply Nat.lt_of_not_le; intro z
  rw [tb_b hA z] at h; cases h
theorem pop_cnt (S : Nat) : pop S = cnt S.testBit 12 := rfl
theorem pop_sub {A B : Nat} (h : Sub A B) (hB : B < 4096) : A = B ∨ pop A < pop B := by
  by_cases e : A = B
  · exact Or.inl e
  · right
    have : A ||| B = B := tb_ext fun i => by rw [or_tb]; exact ⟨fun z => z.elim (h i) id, Or.inr⟩
    have h2 := pop_grow (A := A) (X := B) (by rw [this]; exact hB) (by rw [this]; exact fun z => e z.symm)
    rw [this] at h2
    exact h2
theorem pop_put {S h : Nat} (hh : h < 12) (hS : S.testBit h = false) : pop (S ||| 2 ^ h) = pop S + 1 := by
  rw [pop_cnt, pop_cnt]
  exact cnt_set (k := h) hS (or_tb.mpr (Or.inr (pw_tb.mpr rfl))) (fun i hi => Bool.eq_iff_iff.mpr ⟨fun z => or_tb.mpr (Or.inl z), fun z => (or_tb.mp z).resolve_right (fun q => hi (pw_tb.mp q).symm)⟩) 12 hh
theorem ad_put {S h : Nat} (hS : S.testBit h = true) : ad S (2 ^ h) ||| 2 ^ h = S := tb_ext fun i => by
  rw [or_tb, ad_tbP, pw_tb]
  constructor
  · rintro (⟨h1, -⟩ | h1)
    · exact h1
    · subst h1; exact hS
  · intro h1
    by_cases e : h = i
    · exact Or.inr e
    · exact Or.inl ⟨h1, e⟩
theorem ad_out (S h : Nat) : (ad S (2 ^ h)).testBit h = false := by rw [ad_tb, Nat.testBit_two_pow_self]; simp
theorem pop_take {S h : Nat} (hh : h < 12) (hS : S.testBit h = true) : pop S = pop (ad S (2 ^ h)) + 1 := by
  have := pop_put hh (ad_out S h)
  rw [ad_put hS] at this
  exact this
theorem pop_0 : pop 0 = 0 := by decide
/-! fans -/
def Gr (f : Nat → Nat) : Prop := (∀ a b, (f a).testBit b = true → (f b).testBit a = true) ∧ (∀ a, ¬ (f a).testBit a = true) ∧ ∀ a, f a < 4096
theorem fan_in {C N k c t : Nat} (h : (fanF C N k c).testBit t = true) : c < N ∧ t < N := by
  by_cases hc : c < N
  · rw [fan_tb hc] at h
    simp only [Bool.and_eq_true, decide_eq_true_eq] at h
    exact ⟨hc, h.1⟩
  · unfold fanF at h
    rw [if_pos (by omega), Nat.zero_testBit] at h
    cases h
theorem goes_00 (k : Nat) : goesF k 0 0 = false := by
  unfold goesF
  split <;> rfl
theorem fan_gr (C N k : Nat) (hN : N ≤ 12) : Gr (fanF C N k) := by
  refine ⟨fun a b h => ?_, fun a h => ?_, fun a => fanF_b _ _ _ _ hN⟩
  · obtain ⟨h1, h2⟩ := fan_in h
    rw [fan_tb h1] at h
    rw [fan_tb h2, dist_comm (b / C), dist_comm (b % C)]
    simp only [Bool.and_eq_true, decide_eq_true_eq] at h ⊢
    exact ⟨h1, h.2⟩
  · obtain ⟨h1, h2⟩ := fan_in h
    rw [fan_tb h1] at h
    simp only [Bool.and_eq_true, decide_eq_true_eq] at h
    rw [show dist (a / C) (a / C) = 0 by unfold dist; omega, show dist (a % C) (a % C) = 0 by unfold dist; omega, goes_00] at h
    cases h.2
theorem fold_ind {α : Type} {step : Nat → α → α} {P : Nat → α → Prop} : ∀ (k i : Nat) (x : α), P i x → (∀ j y, i ≤ j → j < i + k → P j y → P (j + 1) (step j y)) → P (i + k) (fold step k i x) := by
  intro k
  induction k with
  | zero => intro i x h _; exact h
  | succ k ih =>
    intro i x h hs
    have := ih (i + 1) (step i x) (hs i x (Nat.le_refl _) (by omega) h) (fun j y h1 h2 hy => hs j y (by omega) (by omega) hy)
    rw [show i + 1 + k = i + (k + 1) by omega] at this
    exact this
/-! ===== peace ===== -/
def Ind (f : Nat → Nat) (S : Nat) : Prop := ∀ a b, S.testBit a = true → S.testBit b = true → ¬ (f a).testBit b = true
def Pce (f : Nat → Nat) (room r : Nat) : Prop := Sub r room ∧ Ind f r ∧ ∀ T, Sub T room → Ind f T → pop T < pop r ∨ (pop T = pop r ∧ r ≤ T)
theorem Pce.uniq {f : Nat → Nat} {room r r' : Nat} (h : Pce f room r) (h' : Pce f room r') : r = r' := by
  have h1 := h.2.2 r' h'.1 h'.2.1
  have h2 := h'.2.2 r h.1 h.2.1
  omega
theorem ind_iff {f : Nat → Nat} {fr set : Nat} (hs : set < 4096) (h : Sub set fr) : spread f set &&& fr &&& set = 0 ↔ Ind f set := by
  constructor
  · intro h0 a b ha hb hab
    exact of_zero h0 b (and_tb.mpr ⟨and_tb.mpr ⟨spread_tb.mpr ⟨a, tb12 hs ha, ha, hab⟩, h b hb⟩, hb⟩)
  · intro hi
    apply zero_of
    intro b hb
    obtain ⟨h1, h2⟩ := and_tb.mp hb
    obtain ⟨c, -, h4, h5⟩ := spread_tb.mp (and_tb.mp h1).1
    exact hi c b h4 h2 h5
theorem psF_Pce {f : Nat → Nat} {fr : Nat} (hfr : fr < 4096) : Pce f fr (psF f fr) := by
  have h := fold_ind (step := psStep f fr) (P := fun S b => (Sub b fr ∧ Ind f b) ∧ b ≤ S ∧ ∀ T, T < S → Sub T fr → Ind f T → pop T < pop b ∨ (pop T = pop b ∧ b ≤ T)) (fr + 1) 0 0
    ⟨⟨fun i hi => absurd hi (of_zero rfl i), fun a b ha => absurd ha (of_zero rfl a)⟩, Nat.le_refl _, fun T hT => absurd hT (Nat.not_lt_zero _)⟩ (fun S b _ hS hb => by
      obtain ⟨⟨h1, h2⟩, h3, h4⟩ := hb
      unfold psStep
      by_cases hc : ad S fr = 0 ∧ pop b < pop S ∧ spread f S &&& fr &&& S = 0
      · rw [if_pos hc]
        have hs := sub_ad.mp hc.1
        refine ⟨⟨hs, (ind_iff (by omega) hs).mp hc.2.2⟩, by omega, fun T hT q1 q2 => ?_⟩
        by_cases e : T = S
        · subst e; exact Or.inr ⟨rfl, Nat.le_refl _⟩
        · have := h4 T (by omega) q1 q2; left; omega
      · rw [if_neg hc]
        refine ⟨⟨h1, h2⟩, by omega, fun T hT q1 q2 => ?_⟩
        by_cases e : T = S
        · subst e
          have : ¬ pop b < pop T := fun z => hc ⟨sub_ad.mpr q1, z, (ind_iff (by omega) q1).mpr q2⟩
          by_cases e2 : pop T = pop b
          · exact Or.inr ⟨e2, h3⟩
          · left; omega
        · exact h4 T (by omega) q1 q2)
  rw [Nat.zero_add] at h
  exact ⟨h.1.1, h.1.2, fun T q1 q2 => h.2.2 T (by have := q1.le; omega) q1 q2⟩
theorem Ind.sub {f : Nat → Nat} {A B : Nat} (h : Ind f B) (hs : Sub A B) : Ind f A := fun a b ha hb => h a b (hs a ha) (hs b hb)
theorem sub_adl (A B : Nat) : Sub (ad A B) A := fun _ h => (ad_tbP.mp h).1
theorem Sub.tr {A B C : Nat} (h : Sub A B) (h2 : Sub B C) : Sub A C := fun i hi => h2 i (h i hi)
theorem lt_pw {A h : Nat} (hA : A < 2 ^ (h + 1)) (hb : A.testBit h = false) : A < 2 ^ h := Nat.lt_pow_two_of_testBit _ fun i hi => by
  by_cases e : i = h
  · rw [e]; exact hb
  · exact Nat.testBit_lt_two_pow (Nat.lt_of_lt_of_le hA (Nat.pow_le_pow_right (by decide) (by omega)))
theorem or_add {A h : Nat} (hA : A < 2 ^ h) : 2 ^ h ||| A = 2 ^ h + A := by
  have := Nat.two_pow_add_eq_or_of_lt hA 1
  rw [Nat.mul_one] at this
  exact this.symm
theorem peaceRec_Pce {f : Nat → Nat} (hf : Gr f) : ∀ h room, h ≤ 12 → room < 2 ^ h → Pce f room (peaceRec f h room) := by
  intro h
  induction h with
  | zero =>
    intro room _ hr
    have e : room = 0 := by omega
    subst e
    exact ⟨fun i hi => hi, fun a b ha => absurd ha (of_zero rfl a), fun T hT _ => Or.inr (by rw [zero_of (fun i hi => of_zero rfl i (hT i hi))]; exact ⟨rfl, Nat.le_refl _⟩)⟩
  | succ h ih =>
    intro room hh hr
    rw [peaceRec_s]
    by_cases h0 : room = 0
    · rw [if_pos h0]
      subst h0
      exact ⟨fun i hi => hi, fun a b ha => absurd ha (of_zero rfl a), fun T hT _ => Or.inr (by rw [zero_of (fun i hi => of_zero rfl i (hT i hi))]; exact ⟨rfl, Nat.le_refl _⟩)⟩
    rw [if_neg h0]
    by_cases hb : room.testBit h = false
    · rw [if_pos hb]
      exact ih room (by omega) (lt_pw hr hb)
    rw [if_neg hb]
    have hb : room.testBit h = true := by simpa using hb
    have hbl : ad room (2 ^ h) < 2 ^ h := lt_pw (Nat.lt_of_le_of_lt (sub_adl _ _).le hr) (ad_out _ _)
    have hB1 : ad (ad room (2 ^ h)) (f h) < 2 ^ h := Nat.lt_of_le_of_lt (sub_adl _ _).le hbl
    have s1 := ih _ (by omega) hB1
    have s2 := ih _ (by omega) hbl
    generalize peaceRec f h (ad (ad room (2 ^ h)) (f h)) = w1 at s1 ⊢
    generalize peaceRec f h (ad room (2 ^ h)) = w2 at s2 ⊢
    have hw1 : w1 < 2 ^ h := Nat.lt_of_le_of_lt s1.1.le hB1
    have hw2 : w2 < 2 ^ h := Nat.lt_of_le_of_lt s2.1.le hbl
    have hn1 : w1.testBit h = false := Nat.testBit_lt_two_pow hw1
    have hpw : pop (2 ^ h ||| w1) = pop w1 + 1 := by rw [Nat.or_comm]; exact pop_put (by omega) hn1
    have hws : Sub (2 ^ h ||| w1) room := fun i hi => by
      rcases or_tb.mp hi with q | q
      · have := pw_tb.mp q; subst this; exact hb
      · exact sub_adl _ _ i (sub_adl _ _ i (s1.1 i q))
    have hwi : Ind f (2 ^ h ||| w1) := fun a b ha hb2 hab => by
      have nf : ∀ x, w1.testBit x = true → ¬ (f h).testBit x = true := fun x hx => (ad_tbP.mp (s1.1 x hx)).2
      rcases or_tb.mp ha with q | q <;> rcases or_tb.mp hb2 with q2 | q2
      · have e1 := pw_tb.mp q; have e2 := pw_tb.mp q2; subst e1; subst e2; exact hf.2.1 _ hab
      · have e1 := pw_tb.mp q; subst e1; exact nf b q2 hab
      · have e2 := pw_tb.mp q2; subst e2; exact nf a q (hf.1 _ _ hab)
      · exact s1.2.1 a b q q2 hab
    -- a set with h
    have hwith : ∀ T, Sub T room → Ind f T → T.testBit h = true → pop T < pop (2 ^ h ||| w1) ∨ (pop T = pop (2 ^ h ||| w1) ∧ 2 ^ h ||| w1 ≤ T) := fun T hT hTi hTh => by
      have hT' : Sub (ad T (2 ^ h)) (ad (ad room (2 ^ h)) (f h)) := fun i hi => by
        obtain ⟨q1, q2⟩ := ad_tbP.mp hi
        exact ad_tbP.mpr ⟨ad_tbP.mpr ⟨hT i q1, q2⟩, hTi h i hTh q1⟩
      have hp := pop_take (by omega : h < 12) hTh
      have hc := s1.2.2 _ hT' (hTi.sub (sub_adl _ _))
      have hTlt : ad T (2 ^ h) < 2 ^ h := Nat.lt_of_le_of_lt hT'.le hB1
      have hTe : T = 2 ^ h + ad T (2 ^ h) := by
        rw [← or_add hTlt, Nat.or_comm, ad_put hTh]
      have hwe := or_add hw1
      omega
    have hwout : ∀ T, Sub T room → Ind f T → ¬ T.testBit h = true → pop T < pop w2 ∨ (pop T = pop w2 ∧ w2 ≤ T) := fun T hT hTi hTh =>
      s2.2.2 T (fun i hi => ad_tbP.mpr ⟨hT i hi, fun z => by have e := pw_tb.mp z; subst e; exact hTh hi⟩) hTi
    by_cases hz : ad room (2 ^ h) &&& f h = 0
    · rw [if_pos hz]
      refine ⟨hws, hwi, fun T hT hTi => ?_⟩
      by_cases hTh : T.testBit h = true
      · exact hwith T hT hTi hTh
      · have hTh' : T.testBit h = false := by simpa using hTh
        have nf : ∀ x, T.testBit x = true → ¬ (f h).testBit x = true := fun x hx hxf => of_zero hz x (and_tb.mpr ⟨ad_tbP.mpr ⟨hT x hx, fun z => by have e := pw_tb.mp z; subst e; exact hTh hx⟩, hxf⟩)
        have hi2 : Ind f (T ||| 2 ^ h) := fun a b ha hb2 hab => by
          rcases or_tb.mp ha with q | q <;> rcases or_tb.mp hb2 with q2 | q2
          · exact hTi a b q q2 hab
          · have e2 := pw_tb.mp q2; subst e2; exact nf a q (hf.1 _ _ hab)
          · have e1 := pw_tb.mp q; subst e1; exact nf b q2 hab
          · have e1 := pw_tb.mp q; have e2 := pw_tb.mp q2; subst e1; subst e2; exact hf.2.1 _ hab
        have hs2 : Sub (T ||| 2 ^ h) room := fun i hi => by
          rcases or_tb.mp hi with q | q
          · exact hT i q
          · have := pw_tb.mp q; subst this; exact hb
        have := hwith _ hs2 hi2 (or_tb.mpr (Or.inr (pw_tb.mpr rfl)))
        have hp := pop_put (by omega : h < 12) hTh'
        left; omega
    · rw [if_neg hz]
      by_cases hl : pop w2 < pop (2 ^ h ||| w1)
      · rw [if_pos hl]
        refine ⟨hws, hwi, fun T hT hTi => ?_⟩
        by_cases hTh : T.testBit h = true
        · exact hwith T hT hTi hTh
        · have := hwout T hT hTi hTh; left; omega
      · rw [if_neg hl]
        refine ⟨s2.1.tr (sub_adl _ _), s2.2.1, fun T hT hTi => ?_⟩
        by_cases hTh : T.testBit h = true
        · have := hwith T hT hTi hTh
          have hge := Nat.ge_two_pow_of_testBit hTh
          by_cases e : pop T = pop w2
          · exact Or.inr ⟨e, by omega⟩
          · left; omega
        · exact hwout T hT hTi hTh
theorem peace_eq {f : Nat → Nat} (hf : Gr f) {fr : Nat} (hfr : fr < 4096) : psF f fr = peaceRec f 12 fr := (psF_Pce hfr).uniq (peaceRec_Pce hf 12 fr (Nat.le_refl _) hfr)
