/-! ===== trades: the class's are the reference's ===== -/
/-- within so many leaps the one is at a, the other one at b -/
def Rc (f g : Nat → Nat) (room s t : Nat) : Nat → Nat → Nat → Prop
  | 0, a, b => a = s ∧ b = t
  | n + 1, a, b => Rc f g room s t n a b ∨ (room.testBit a = true ∧ room.testBit b = true ∧ a ≠ b ∧ ((∃ a', Rc f g room s t n a' b ∧ (f a').testBit a = true) ∨ ∃ b', Rc f g room s t n a b' ∧ (g b').testBit b = true))
def TrS (R : Nat → Nat → Nat → Prop) (a b : Nat) : Option Nat → Prop
  | some m => R m a b ∧ ∀ i, i < m → ¬ R i a b
  | none => ∀ i, ¬ R i a b
theorem TrS.uniq {R : Nat → Nat → Nat → Prop} {a b : Nat} : ∀ {o o' : Option Nat}, TrS R a b o → TrS R a b o' → o = o'
  | none, none, _, _ => rfl
  | none, some m, h, h' => absurd h'.1 (h m)
  | some m, none, h, h' => absurd h.1 (h' m)
  | some m, some m', h, h' => by
    rcases Nat.lt_trichotomy m m' with q | q | q
    · exact absurd h.1 (h'.2 m q)
    · rw [q]
    · exact absurd h'.1 (h.2 m' q)
section
variable {f g : Nat → Nat} {room s t : Nat}
theorem Rc.up {n a b : Nat} (h : Rc f g room s t n a b) : ∀ k, Rc f g room s t (n + k) a b := by
  intro k
  induction k with
  | zero => exact h
  | succ k ih => exact Or.inl ih
theorem Rc.le {n m a b : Nat} (h : Rc f g room s t n a b) (hm : n ≤ m) : Rc f g room s t m a b := by
  have := h.up (m - n)
  rwa [show n + (m - n) = m by omega] at this
theorem Rc.rm (hs : room.testBit s = true) (ht : room.testBit t = true) (hst : s ≠ t) : ∀ {n a b : Nat}, Rc f g room s t n a b → room.testBit a = true ∧ room.testBit b = true ∧ a ≠ b := by
  intro n
  induction n with
  | zero => rintro a b ⟨rfl, rfl⟩; exact ⟨hs, ht, hst⟩
  | succ n ih =>
    rintro a b (h | ⟨h1, h2, h3, -⟩)
    · exact ih h
    · exact ⟨h1, h2, h3⟩
theorem prNext_tb {p : Nat → Nat} {c b : Nat} : (prNext f g room p c).testBit b = true ↔ room.testBit c = true ∧ room.testBit b = true ∧ c ≠ b ∧ ((p c).testBit b = true ∨ (∃ x, x < 12 ∧ (p c).testBit x = true ∧ (g x).testBit b = true) ∨ ∃ x, x < 12 ∧ (f c).testBit x = true ∧ (p x).testBit b = true) := by
  unfold prNext
  by_cases hc : room.testBit c = true
  · rw [if_pos hc, ad_tbP, and_tb, pw_tb]
    unfold prJoin
    rw [foldIf_tb (f := p) (P := (f c).testBit) 12 0 _ b, or_tb, spread_tb]
    constructor
    · rintro ⟨⟨(h | h) | ⟨j, h1, h2, h3, h4⟩, h5⟩, h6⟩
      · exact ⟨hc, h5, h6, Or.inl h⟩
      · exact ⟨hc, h5, h6, Or.inr (Or.inl h)⟩
      · exact ⟨hc, h5, h6, Or.inr (Or.inr ⟨j, by omega, h3, h4⟩)⟩
    · rintro ⟨-, h5, h6, h | h | ⟨j, h1, h2, h3⟩⟩
      · exact ⟨⟨Or.inl (Or.inl h), h5⟩, h6⟩
      · exact ⟨⟨Or.inl (Or.inr h), h5⟩, h6⟩
      · exact ⟨⟨Or.inr ⟨j, Nat.zero_le _, by omega, h2, h3⟩, h5⟩, h6⟩
  · rw [if_neg hc, Nat.zero_testBit]
    exact ⟨fun z => Bool.noConfusion z, fun z => absurd z.1 hc⟩
theorem prMore_iff {nx p : Nat → Nat} : ∀ (n i : Nat) (m : Bool), prMore nx p n i m = true ↔ m = true ∨ ∃ c, i ≤ c ∧ c < i + n ∧ nx c ≠ p c := by
  intro n
  induction n with
  | zero => intro i m; exact ⟨Or.inl, fun h => h.elim id (fun ⟨c, h1, h2, _⟩ => by omega)⟩
  | succ n ih =>
    intro i m
    have e := ih (i + 1) (if nx i = p i then m else true)
    show prMore nx p n (i + 1) (if nx i = p i then m else true) = true ↔ _
    rw [e]
    by_cases h : nx i = p i
    · rw [if_pos h]
      constructor
      · rintro (q | ⟨c, q1, q2, q3⟩)
        · exact Or.inl q
        · exact Or.inr ⟨c, by omega, by omega, q3⟩
      · rintro (q | ⟨c, q1, q2, q3⟩)
        · exact Or.inl q
        · exact Or.inr ⟨c, by by_cases e : c = i; (subst e; exact absurd h q3); omega, by omega, q3⟩
    · rw [if_neg h]
      exact ⟨fun _ => Or.inr ⟨i, Nat.le_refl _, by omega, h⟩, fun _ => Or.inl rfl⟩
def cS (p : Nat → Nat) : Nat → Nat
  | 0 => 0
  | n + 1 => cS p n + pop (p n)
theorem cS_le (p : Nat → Nat) : ∀ n, cS p n ≤ 12 * n := by
  intro n
  induction n with
  | zero => exact Nat.le_refl _
  | succ n ih => unfold cS; have := pop_le (p n); omega
theorem cS_mono {p q : Nat → Nat} (h : ∀ c, Sub (p c) (q c)) (hq : ∀ c, q c < 4096) : ∀ n, cS p n ≤ cS q n := by
  intro n
  induction n with
  | zero => exact Nat.le_refl _
  | succ n ih =>
    unfold cS
    rcases pop_sub (h n) (hq n) with e | e
    · rw [e]; omega
    · omega
theorem cS_lt {p q : Nat → Nat} (h : ∀ c, Sub (p c) (q c)) (hq : ∀ c, q c < 4096) {k : Nat} (hk : q k ≠ p k) : ∀ n, k < n → cS p n < cS q n := by
  intro n
  induction n with
  | zero => intro z; omega
  | succ n ih =>
    intro z
    unfold cS
    by_cases e : k = n
    · subst e
      have h1 := cS_mono h hq k
      rcases pop_sub (h k) (hq k) with e | e
      · exact absurd e.symm hk
      · omega
    · have h1 := ih (by omega)
      rcases pop_sub (h n) (hq n) with e | e
      · rw [e]; omega
      · omega
theorem tr_class (hf : Gr f) (hroom : room < 4096) (hs : room.testBit s = true) (ht : room.testBit t = true) (hst : s ≠ t) (hg : Gr g) : TrS (Rc f g room s t) t s (trF f g s t room) := by
  have step : ∀ (i : Nat) (p : Nat → Nat), (∀ a b, (p a).testBit b = true ↔ Rc f g room s t i a b) → ∀ a b, (prNext f g room p a).testBit b = true ↔ Rc f g room s t (i + 1) a b := by
    intro i p hp a b
    rw [prNext_tb]
    constructor
    · rintro ⟨h1, h2, h3, h | ⟨x, -, h4, h5⟩ | ⟨x, -, h4, h5⟩⟩
      · exact Or.inl ((hp a b).mp h)
      · exact Or.inr ⟨h1, h2, h3, Or.inr ⟨x, (hp a x).mp h4, h5⟩⟩
      · exact Or.inr ⟨h1, h2, h3, Or.inl ⟨x, (hp x b).mp h5, hf.1 _ _ h4⟩⟩
    · rintro (h | ⟨h1, h2, h3, ⟨x, h4, h5⟩ | ⟨x, h4, h5⟩⟩)
      · obtain ⟨h1, h2, h3⟩ := h.rm hs ht hst
        exact ⟨h1, h2, h3, Or.inl ((hp a b).mpr h)⟩
      · exact ⟨h1, h2, h3, Or.inr (Or.inr ⟨x, tb12 hroom (h4.rm hs ht hst).1, hf.1 _ _ h5, (hp x b).mpr h4⟩)⟩
      · exact ⟨h1, h2, h3, Or.inr (Or.inl ⟨x, tb12 hroom (h4.rm hs ht hst).2.1, (hp a x).mpr h4, h5⟩)⟩
  have main : ∀ (n i : Nat) (p : Nat → Nat), (∀ a b, (p a).testBit b = true ↔ Rc f g room s t i a b) → (∀ a, p a < 4096) → (∀ i', i' < i → ¬ Rc f g room s t i' t s) → 145 ≤ n + cS p 12 → TrS (Rc f g room s t) t s (trFrom f g s t room n i p) := by
    intro n
    induction n with
    | zero => intro i p _ _ _ h; have := cS_le p 12; omega
    | succ n ih =>
      intro i p hp hb hno hn
      rw [trFrom_s]
      by_cases h1 : (p t).testBit s = true
      · rw [if_pos h1]
        exact ⟨(hp t s).mp h1, hno⟩
      · rw [if_neg h1]
        have hnb : ∀ a, prNext f g room p a < 4096 := fun a => prNext_b hb hg.2.2 a
        have hsub : ∀ c, Sub (p c) (prNext f g room p c) := fun c b hb2 => (step i p hp c b).mpr (Or.inl ((hp c b).mp hb2))
        have hni : ¬ Rc f g room s t i t s := fun z => h1 ((hp t s).mpr z)
        by_cases h2 : prMore (prNext f g room p) p 12 0 false = true
        · rw [if_pos h2]
          obtain ⟨c, -, h3, h4⟩ := ((prMore_iff 12 0 false).mp h2).resolve_left (by decide)
          have := cS_lt hsub hnb h4 12 (by omega)
          exact ih (i + 1) _ (step i p hp) hnb (fun i' hi' => by
            rcases Nat.lt_succ_iff_lt_or_eq.mp hi' with q | q
            · exact hno i' q
            · rw [q]; exact hni) (by omega)
        · rw [if_neg h2]
          have hfix : ∀ a b, Rc f g room s t (i + 1) a b → Rc f g room s t i a b := fun a b hab => by
            have ha : a < 12 := tb12 hroom (hab.rm hs ht hst).1
            have e : prNext f g room p a = p a := Classical.byContradiction fun z => h2 ((prMore_iff 12 0 false).mpr (Or.inr ⟨a, Nat.zero_le _, by omega, z⟩))
            have := (step i p hp a b).mpr hab
            rw [e] at this
            exact (hp a b).mp this
          have hall : ∀ k a b, Rc f g room s t (i + k) a b → Rc f g room s t i a b := by
            intro k
            induction k with
            | zero => intro a b h; exact h
            | succ k ihk =>
              rintro a b (h | ⟨q1, q2, q3, ⟨x, q4, q5⟩ | ⟨x, q4, q5⟩⟩)
              · exact ihk a b h
              · exact hfix a b (Or.inr ⟨q1, q2, q3, Or.inl ⟨x, ihk _ _ q4, q5⟩⟩)
              · exact hfix a b (Or.inr ⟨q1, q2, q3, Or.inr ⟨x, ihk _ _ q4, q5⟩⟩)
          intro m hm
          by_cases q : m ≤ i
          · exact hni (hm.le q)
          · exact hni (hall (m - i) t s (by rw [show i + (m - i) = m by omega]; exact hm))
  have hs12 := tb12 hroom hs
  have ht12 := tb12 hroom ht
  refine main 144 0 _ (fun a b => ?_) (fun a => ?_) (fun i' hi' => absurd hi' (Nat.not_lt_zero _)) ?_
  · unfold un
    constructor
    · intro h
      by_cases e : a = s
      · rw [if_pos e] at h; exact ⟨e, (pw_tb.mp h).symm⟩
      · rw [if_neg e, Nat.zero_testBit] at h; cases h
    · rintro ⟨rfl, rfl⟩
      rw [if_pos rfl]; exact pw_tb.mpr rfl
  · unfold un
    split
    · exact pw_b ht12
    · exact (by decide : 0 < 4096)
  · have h0 : cS (fun _ => 0) 12 < cS (un (fun _ => 0) s (2 ^ t)) 12 := cS_lt (k := s) (fun c i hi => absurd hi (of_zero rfl i)) (fun a => by
      unfold un
      split
      · exact pw_b ht12
      · exact (by decide : 0 < 4096)) (by rw [un_same]; exact Nat.ne_of_gt (Nat.two_pow_pos t)) 12 hs12
    omega
/-! the reference's row -/
def IB (R : Nat → Nat → Nat → Prop) (N V : Nat) (x : TS) : Prop :=
  TI N V x ∧ (∀ p, x.1 p ≠ 268435456 → p < 144 ∧ R (x.1 p) (p / 12) (p % 12)) ∧ (∀ i j, i ≤ j → j < x.2.2 → x.1 (x.2.1 i) ≤ x.1 (x.2.1 j)) ∧ ∀ p, x.1 p ≠ 268435456 → ∃ i, i < x.2.2 ∧ x.2.1 i = p
/-- y goes on from x -/
def Ext (x y : TS) : Prop := (∀ i, i < x.2.2 → y.2.1 i = x.2.1 i) ∧ x.2.2 ≤ y.2.2 ∧ ∀ p, x.1 p ≠ 268435456 → y.1 p = x.1 p
theorem Ext.rf (x : TS) : Ext x x := ⟨fun _ _ => rfl, Nat.le_refl _, fun _ _ => rfl⟩
theorem Ext.tr {x y z : TS} (h : Ext x y) (h2 : Ext y z) : Ext x z := ⟨fun i hi => (h2.1 i (Nat.lt_of_lt_of_le hi h.2.1)).trans (h.1 i hi), Nat.le_trans h.2.1 h2.2.1, fun p hp => (h2.2.2 p (by rw [h.2.2 p hp]; exact hp)).trans (h.2.2 p hp)⟩
theorem IB.mono {R : Nat → Nat → Nat → Prop} {N V V' : Nat} {x : TS} (h : IB R N V x) (hV : V ≤ V') : IB R N V' x := ⟨h.1.mono hV, h.2⟩
theorem IB.ct {R : Nat → Nat → Nat → Prop} {N V : Nat} {x : TS} (h : IB R N V x) (hV : V < 268435456) {q : Nat} (hq : q < 144) (ha : q / 12 < N) (hb : q % 12 < N) (hR : R V (q / 12) (q % 12)) : IB R N V (ctF q V x) ∧ Ext x (ctF q V x) ∧ (ctF q V x).1 q ≠ 268435456 := by
  obtain ⟨h1, h2, h3, h4⟩ := h
  have hT := h1.ct (pr := q) (lv := V) hq ha hb (Nat.le_refl _) hV
  by_cases he : x.1 q = 268435456
  · have e : ctF q V x = (un x.1 q V, un x.2.1 x.2.2 q, x.2.2 + 1) := by unfold ctF; rw [if_pos he]
    rw [e] at hT ⊢
    have hrow : ∀ i, i < x.2.2 → x.2.1 i ≠ q := fun i hi z => (h1.2.1 i hi).2.2.2 (by rw [z]; exact he)
    refine ⟨⟨hT, fun p hp => ?_, fun i j hij hj => ?_, fun p hp => ?_⟩, ⟨fun i hi => un_ne (by omega), Nat.le_succ _, fun p hp => un_ne (fun z => hp (by rw [z]; exact he))⟩, by show un x.1 q V q ≠ _; rw [un_same]; omega⟩
    · simp only at hp ⊢
      by_cases ep : p = q
      · subst ep; rw [un_same]; exact ⟨hq, hR⟩
      · rw [un_ne ep] at hp ⊢; exact h2 p hp
    · simp only at hj ⊢
      by_cases ej : j = x.2.2
      · subst ej
        rw [un_same, un_same]
        by_cases ei : i = x.2.2
        · subst ei; rw [un_same, un_same]; exact Nat.le_refl _
        · rw [un_ne ei, un_ne (hrow i (by omega))]
          exact (h1.1 _).resolve_left (h1.2.1 i (by omega)).2.2.2
      · rw [un_ne (show i ≠ x.2.2 by omega), un_ne ej, un_ne (hrow i (by omega)), un_ne (hrow j (by omega))]
        exact h3 i j hij (by omega)
    · simp only at hp ⊢
      by_cases ep : p = q
      · subst ep; exact ⟨x.2.2, Nat.lt_succ_self _, un_same _ _ _⟩
      · rw [un_ne ep] at hp
        obtain ⟨i, q1, q2⟩ := h4 p hp
        exact ⟨i, Nat.lt_succ_of_lt q1, by rw [un_ne (by omega)]; exact q2⟩
  · have e : ctF q V x = x := by unfold ctF; rw [if_neg he]
    rw [e]
    exact ⟨⟨h1, h2, h3, h4⟩, Ext.rf x, he⟩
variable {fr still N : Nat}
theorem cfG_tb {h : Nat → Nat} {a b c : Nat} (hrm : ∀ c, room.testBit c = true ↔ fr.testBit c = true ∧ ¬ still.testBit c = true) : (cfG h fr still a b).testBit c = true ↔ (h a).testBit c = true ∧ room.testBit c = true ∧ b ≠ c := by
  unfold cfG
  rw [ad_tbP, ad_tbP, and_tb, pw_tb, hrm]
  exact ⟨fun ⟨⟨⟨q1, q2⟩, q3⟩, q4⟩ => ⟨q1, ⟨q2, q3⟩, q4⟩, fun ⟨q1, ⟨q2, q3⟩, q4⟩ => ⟨⟨⟨q1, q2⟩, q3⟩, q4⟩⟩
theorem cf_spec (hrm : ∀ c, room.testBit c = true ↔ fr.testBit c = true ∧ ¬ still.testBit c = true) (hN : N ≤ 12) (hs : room.testBit s = true) (ht : room.testBit t = true) (hst : s ≠ t) {V v pr : Nat} {x : TS} (hx : IB (Rc f g room s t) N V x) (hv : x.1 pr = v) (hVv : V = v + 1) (hV : V < 268435456) (hpr : pr < 144) (hpa : pr / 12 < N) (hpb : pr % 12 < N) :
    IB (Rc f g room s t) N V (cfF f g fr still N pr x) ∧ Ext x (cfF f g fr still N pr x) ∧ ∀ c, c < N → ((cfG f fr still (pr / 12) (pr % 12)).testBit c = true → (cfF f g fr still N pr x).1 (12 * c + pr % 12) ≠ 268435456) ∧ ((cfG g fr still (pr % 12) (pr / 12)).testBit c = true → (cfF f g fr still N pr x).1 (12 * (pr / 12) + c) ≠ 268435456) := by
  have hRv : Rc f g room s t v (pr / 12) (pr % 12) := by have := (hx.2.1 pr (by omega)).2; rwa [hv] at this
  obtain ⟨r1, r2, r3⟩ := hRv.rm hs ht hst
  have h := fold_ind (step := cfStep f g fr still pr) (P := fun j y => IB (Rc f g room s t) N V y ∧ Ext x y ∧ ∀ c, c < j → ((cfG f fr still (pr / 12) (pr % 12)).testBit c = true → y.1 (12 * c + pr % 12) ≠ 268435456) ∧ ((cfG g fr still (pr % 12) (pr / 12)).testBit c = true → y.1 (12 * (pr / 12) + c) ≠ 268435456)) N 0 x
    ⟨hx, Ext.rf x, fun c hc => absurd hc (Nat.not_lt_zero _)⟩ (fun j y _ hj hy => by
      obtain ⟨y1, y2, y3⟩ := hy
      have hj : j < N := by omega
      have hyp : y.1 pr + 1 = V := by rw [y2.2.2 pr (by omega), hv]; exact hVv.symm
      have A : IB (Rc f g room s t) N V (cf1 (cfG f fr still (pr / 12) (pr % 12)) (pr % 12) pr j y) ∧ Ext y (cf1 (cfG f fr still (pr / 12) (pr % 12)) (pr % 12) pr j y) ∧ ((cfG f fr still (pr / 12) (pr % 12)).testBit j = true → (cf1 (cfG f fr still (pr / 12) (pr % 12)) (pr % 12) pr j y).1 (12 * j + pr % 12) ≠ 268435456) := by
        unfold cf1
        by_cases hb : (cfG f fr still (pr / 12) (pr % 12)).testBit j = true
        · rw [if_pos hb, hyp]
          obtain ⟨q1, q2, q3⟩ := (cfG_tb hrm).mp hb
          have e1 : (12 * j + pr % 12) / 12 = j := by omega
          have e2 : (12 * j + pr % 12) % 12 = pr % 12 := by omega
          have := y1.ct hV (q := 12 * j + pr % 12) (by omega) (by omega) (by omega) (by rw [e1, e2, hVv]; exact Or.inr ⟨q2, r2, fun z => q3 z.symm, Or.inl ⟨pr / 12, hRv, q1⟩⟩)
          exact ⟨this.1, this.2.1, fun _ => this.2.2⟩
        · rw [if_neg hb]
          exact ⟨y1, Ext.rf y, fun z => absurd z hb⟩
      unfold cfStep
      generalize cf1 (cfG f fr still (pr / 12) (pr % 12)) (pr % 12) pr j y = z at A ⊢
      obtain ⟨z1, z2, z3⟩ := A
      have hxz := y2.tr z2
      have hzp : z.1 pr + 1 = V := by rw [hxz.2.2 pr (by omega), hv]; exact hVv.symm
      have B : IB (Rc f g room s t) N V (cf2 (cfG g fr still (pr % 12) (pr / 12)) (pr / 12) pr j z) ∧ Ext z (cf2 (cfG g fr still (pr % 12) (pr / 12)) (pr / 12) pr j z) ∧ ((cfG g fr still (pr % 12) (pr / 12)).testBit j = true → (cf2 (cfG g fr still (pr % 12) (pr / 12)) (pr / 12) pr j z).1 (12 * (pr / 12) + j) ≠ 268435456) := by
        unfold cf2
        by_cases hb : (cfG g fr still (pr % 12) (pr / 12)).testBit j = true
        · rw [if_pos hb, hzp]
          obtain ⟨q1, q2, q3⟩ := (cfG_tb hrm).mp hb
          have e1 : (12 * (pr / 12) + j) / 12 = pr / 12 := by omega
          have e2 : (12 * (pr / 12) + j) % 12 = j := by omega
          have := z1.ct hV (q := 12 * (pr / 12) + j) (by omega) (by omega) (by omega) (by rw [e1, e2, hVv]; exact Or.inr ⟨r1, q2, q3, Or.inr ⟨pr % 12, hRv, q1⟩⟩)
          exact ⟨this.1, this.2.1, fun _ => this.2.2⟩
        · rw [if_neg hb]
          exact ⟨z1, Ext.rf z, fun q => absurd q hb⟩
      generalize cf2 (cfG g fr still (pr % 12) (pr / 12)) (pr / 12) pr j z = u at B ⊢
      obtain ⟨u1, u2, u3⟩ := B
      refine ⟨u1, hxz.tr u2, fun c hc => ?_⟩
      have keep : ∀ p, z.1 p ≠ 268435456 → u.1 p ≠ 268435456 := fun p hp => by rw [u2.2.2 p hp]; exact hp
      by_cases e : c = j
      · subst e; exact ⟨fun q => keep _ (z3 q), u3⟩
      · have := y3 c (by omega)
        exact ⟨fun q => keep _ (by rw [z2.2.2 _ (this.1 q)]; exact this.1 q), fun q => keep _ (by rw [z2.2.2 _ (this.2 q)]; exact this.2 q)⟩)
  rw [Nat.zero_add] at h
  exact h
theorem tr_ref (hrm : ∀ c, room.testBit c = true ↔ fr.testBit c = true ∧ ¬ still.testBit c = true) (hN : N ≤ 12) (hroom : ∀ c, room.testBit c = true → c < N) (hs : room.testBit s = true) (ht : room.testBit t = true) (hst : s ≠ t) (r0 : Nat → Nat) :
    TrS (Rc f g room s t) t s (if (tmF f g fr still N (12 * s + t) r0).1 (12 * t + s) = 268435456 then none else some ((tmF f g fr still N (12 * s + t) r0).1 (12 * t + s))) := by
  have main : ∀ (n k : Nat) (x : TS) (V : Nat), 145 ≤ n + k → k ≤ 144 → IB (Rc f g room s t) N V x → V ≤ k + 1 → (k < x.2.2 → V ≤ x.1 (x.2.1 k) + 1) → x.1 (12 * s + t) = 0 →
      (∀ i, i < k → i < x.2.2 → ∀ c, c < N → ((cfG f fr still (x.2.1 i / 12) (x.2.1 i % 12)).testBit c = true → x.1 (12 * c + x.2.1 i % 12) ≠ 268435456 ∧ x.1 (12 * c + x.2.1 i % 12) ≤ x.1 (x.2.1 i) + 1) ∧ ((cfG g fr still (x.2.1 i % 12) (x.2.1 i / 12)).testBit c = true → x.1 (12 * (x.2.1 i / 12) + c) ≠ 268435456 ∧ x.1 (12 * (x.2.1 i / 12) + c) ≤ x.1 (x.2.1 i) + 1)) →
      TrS (Rc f g room s t) t s (if (tmFrom f g fr still N n k x).1 (12 * t + s) = 268435456 then none else some ((tmFrom f g fr still N n k x).1 (12 * t + s))) := by
    intro n
    induction n with
    | zero => intro k x V h1 h2; omega
    | succ n ih =>
      intro k x V hn hk hx hVk hV h0 hcl
      rw [tmFrom_s]
      by_cases hlt : k < x.2.2
      · rw [if_pos hlt]
        have hr := hx.1.2.1 k hlt
        have hv : x.1 (x.2.1 k) ≤ V := (hx.1.1 _).resolve_left hr.2.2.2
        have hx' := hx.mono (hV hlt)
        obtain ⟨y1, y2, y3⟩ := cf_spec (f := f) (g := g) hrm hN hs ht hst hx' rfl rfl (by omega) hr.1 hr.2.1 hr.2.2.1
        generalize cfF f g fr still N (x.2.1 k) x = y at y1 y2 y3 ⊢
        have hrk := y2.1 k hlt
        have hvk := y2.2.2 _ hr.2.2.2
        have hk' : k + 1 ≤ 144 := by have := hx.1.le; omega
        refine ih (k + 1) y (x.1 (x.2.1 k) + 1) (by omega) hk' y1 (by omega) (fun hk2 => ?_) (by rw [y2.2.2 _ (by omega)]; exact h0) (fun i hi hi2 c hc => ?_)
        · have := y1.2.2.1 k (k + 1) (Nat.le_succ _) hk2
          rw [hrk, hvk] at this
          omega
        · have cap : ∀ p, y.1 p ≠ 268435456 → y.1 p ≤ x.1 (x.2.1 k) + 1 := fun p hp => (y1.1.1 p).resolve_left hp
          by_cases e : i = k
          · subst e
            rw [hrk, hvk]
            have := y3 c hc
            exact ⟨fun q => ⟨this.1 q, cap _ (this.1 q)⟩, fun q => ⟨this.2 q, cap _ (this.2 q)⟩⟩
          · have hix : i < x.2.2 := by omega
            have hri := y2.1 i hix
            have hvi := y2.2.2 _ (hx.1.2.1 i hix).2.2.2
            rw [hri, hvi]
            have := hcl i (by omega) hix c hc
            exact ⟨fun q => by rw [y2.2.2 _ (this.1 q).1]; exact this.1 q, fun q => by rw [y2.2.2 _ (this.2 q).1]; exact this.2 q⟩
      · rw [if_neg hlt]
        have hall : ∀ m a b, Rc f g room s t m a b → x.1 (12 * a + b) ≠ 268435456 ∧ x.1 (12 * a + b) ≤ m := by
          intro m
          induction m with
          | zero => rintro a b ⟨rfl, rfl⟩; rw [h0]; exact ⟨by decide, Nat.le_refl _⟩
          | succ m ihm =>
            rintro a b (h | ⟨q1, q2, q3, ⟨a', q4, q5⟩ | ⟨b', q4, q5⟩⟩)
            · have := ihm a b h
              exact ⟨this.1, by omega⟩
            · have h5 := ihm a' b q4
              obtain ⟨i, h6, h7⟩ := hx.2.2.2 _ h5.1
              have hb := hroom b q2
              have ha' := hroom a' (q4.rm hs ht hst).1
              have := (hcl i (by omega) h6 a (hroom a q1)).1
              rw [h7, show (12 * a' + b) / 12 = a' by omega, show (12 * a' + b) % 12 = b by omega] at this
              have := this ((cfG_tb hrm).mpr ⟨q5, q1, fun z => q3 z.symm⟩)
              exact ⟨this.1, by omega⟩
            · have h5 := ihm a b' q4
              obtain ⟨i, h6, h7⟩ := hx.2.2.2 _ h5.1
              have ha := hroom a q1
              have hb' := hroom b' (q4.rm hs ht hst).2.1
              have := (hcl i (by omega) h6 b (hroom b q2)).2
              rw [h7, show (12 * a + b') / 12 = a by omega, show (12 * a + b') % 12 = b' by omega] at this
              have := this ((cfG_tb hrm).mpr ⟨q5, q2, q3⟩)
              exact ⟨this.1, by omega⟩
        have hs12 := hroom s hs
        have ht12 := hroom t ht
        by_cases he : x.1 (12 * t + s) = 268435456
        · rw [if_pos he]
          exact fun i hi => (hall i t s hi).1 he
        · rw [if_neg he]
          have := (hx.2.1 _ he).2
          rw [show (12 * t + s) / 12 = t by omega, show (12 * t + s) % 12 = s by omega] at this
          exact ⟨this, fun i hi hR => by have := (hall i t s hR).2; omega⟩
  have hs12 := hroom s hs
  have ht12 := hroom t ht
  have hT0 : TI N 0 ((fun _ => 268435456, r0, 0) : TS) := ⟨fun _ => Or.inl rfl, fun q hq => absurd hq (Nat.not_lt_zero _), (cnt_congr 144 (P' := fun _ => false) (fun _ _ => decide_eq_false (fun h => h rfl))).trans (cnt_0 144)⟩
  have hI0 : IB (Rc f g room s t) N 0 ((fun _ => 268435456, r0, 0) : TS) := ⟨hT0, fun p hp => absurd rfl hp, fun i j _ hj => absurd hj (Nat.not_lt_zero _), fun p hp => absurd rfl hp⟩
  have h1 := hI0.ct (by decide) (q := 12 * s + t) (by omega) (by omega) (by omega) ⟨by omega, by omega⟩
  have hz : (ctF (12 * s + t) 0 ((fun _ => 268435456, r0, 0) : TS)).1 (12 * s + t) = 0 := by
    have := (h1.1.1.1 (12 * s + t)).resolve_left h1.2.2
    omega
  exact main 145 0 _ 0 (by decide) (by decide) h1.1 (by decide) (fun _ => Nat.zero_le _) hz (fun i hi => absurd hi (Nat.not_lt_zero _))
end
theorem trade_eq {C N fr lp : Nat} {ks sts r0 : Nat → Nat} {i j : Nat} (hN : N ≤ 12) (hfr : fr < 2 ^ N) (hf : ∀ l, l < lp → fr.testBit (sts l) = true) (hd : ∀ i j, i < lp → j < lp → sts i = sts j → i = j) (hi : i < lp) (hj : j < lp) (hij : i ≠ j) : tradeM C N fr lp ks sts r0 i j = tradeV C N fr lp ks sts i j := by
  have h12 : 2 ^ N ≤ 4096 := Nat.pow_le_pow_right (n := 2) (by decide) hN
  have hne : sts i ≠ sts j := fun z => hij (hd i j hi hj z)
  have hrm : ∀ c, (emptyF fr lp sts ||| 2 ^ sts i ||| 2 ^ sts j).testBit c = true ↔ fr.testBit c = true ∧ ¬ (stilF lp sts i j).testBit c = true := fun c => by
    unfold stilF
    rw [or_tb, or_tb, empty_tb, pw_tb, pw_tb, ad_tbP, std_tb, or_tb, pw_tb, pw_tb]
    constructor
    · rintro ((⟨h1, h2⟩ | h) | h)
      · exact ⟨h1, fun ⟨⟨l, q1, q2⟩, _⟩ => h2 l q1 q2⟩
      · subst h; exact ⟨hf i hi, fun q => q.2 (Or.inl rfl)⟩
      · subst h; exact ⟨hf j hj, fun q => q.2 (Or.inr rfl)⟩
    · rintro ⟨h1, h2⟩
      by_cases q : sts i = c
      · exact Or.inl (Or.inr q)
      · by_cases q2 : sts j = c
        · exact Or.inr q2
        · exact Or.inl (Or.inl ⟨h1, fun l hl e => h2 ⟨⟨l, hl, e⟩, fun z => z.elim q q2⟩⟩)
  have hin : ∀ c, (emptyF fr lp sts ||| 2 ^ sts i ||| 2 ^ sts j).testBit c = true → c < N := fun c hc => by
    have := ((hrm c).mp hc).1
    apply Nat.lt_of_not_le; intro z
    rw [Nat.testBit_lt_two_pow (Nat.lt_of_lt_of_le hfr (Nat.pow_le_pow_right (by decide) z))] at this
    cases this
  have hs : (emptyF fr lp sts ||| 2 ^ sts i ||| 2 ^ sts j).testBit (sts i) = true := or_tb.mpr (Or.inl (or_tb.mpr (Or.inr (pw_tb.mpr rfl))))
  have ht : (emptyF fr lp sts ||| 2 ^ sts i ||| 2 ^ sts j).testBit (sts j) = true := or_tb.mpr (Or.inr (pw_tb.mpr rfl))
  have hroom : emptyF fr lp sts ||| 2 ^ sts i ||| 2 ^ sts j < 4096 := or_b (or_b (empty_b (by omega)) (pw_b (by have := hin _ hs; omega))) (pw_b (by have := hin _ ht; omega))
  have h1 := tr_class (fan_gr C N (ks i) hN) hroom hs ht hne (fan_gr C N (ks j) hN)
  have h2 := tr_ref (f := fanF C N (ks i)) (g := fanF C N (ks j)) hrm hN hin hs ht hne r0
  have e := h1.uniq h2
  unfold tradeM tradeV
  rw [e]
  split
  · rfl
  · rfl
