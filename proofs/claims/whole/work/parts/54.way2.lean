/-! ===== the longest ways: the class's are the reference's ===== -/
/-! the next set -/
theorem ad_div (A B : Nat) : ad A B / 2 = ad (A / 2) (B / 2) := by
  apply Nat.eq_of_testBit_eq
  intro i
  rw [Nat.testBit_div_two, ad_tb, ad_tb, Nat.testBit_div_two, Nat.testBit_div_two]
theorem ad_mod (A B : Nat) : ad A B % 2 = 1 ↔ A % 2 = 1 ∧ ¬ B % 2 = 1 := by
  rw [Nat.mod_two_eq_one_iff_testBit_zero, Nat.mod_two_eq_one_iff_testBit_zero, Nat.mod_two_eq_one_iff_testBit_zero, ad_tbP]
theorem sub_half {S M : Nat} (h : Sub S M) : Sub (S / 2) (M / 2) ∧ S % 2 ≤ M % 2 := by
  refine ⟨fun i hi => ?_, ?_⟩
  · rw [Nat.testBit_div_two] at hi ⊢; exact h _ hi
  · have := h 0
    rw [← Nat.mod_two_eq_one_iff_testBit_zero, ← Nat.mod_two_eq_one_iff_testBit_zero] at this
    omega
theorem ad_comp : ∀ n M S : Nat, M < 2 ^ n → Sub S M → ad M (M - S) = S := by
  intro n
  induction n with
  | zero =>
    intro M S hM h
    have := h.le
    have e : M = 0 := by omega
    subst e
    have e2 : S = 0 := by omega
    subst e2
    rfl
  | succ n ih =>
    intro M S hM h
    obtain ⟨h1, h2⟩ := sub_half h
    have hle := h.le
    have hle2 := h1.le
    have i1 := ih (M / 2) (S / 2) (by rw [Nat.pow_succ] at hM; omega) h1
    have d := ad_div M (M - S)
    have m := ad_mod M (M - S)
    rw [show (M - S) / 2 = M / 2 - S / 2 by omega, i1] at d
    generalize ad M (M - S) = z at d m ⊢
    omega
theorem nx_core : ∀ n M S : Nat, M < 2 ^ n → Sub S M → S < M → S < ad M (M - S - 1) ∧ ∀ T, Sub T M → S < T → ad M (M - S - 1) ≤ T := by
  intro n
  induction n with
  | zero => intro M S hM _ h; omega
  | succ n ih =>
    intro M S hM h hlt
    obtain ⟨h1, h2⟩ := sub_half h
    have hle2 := h1.le
    have hM2 : M / 2 < 2 ^ n := by rw [Nat.pow_succ] at hM; omega
    have d := ad_div M (M - S - 1)
    have m := ad_mod M (M - S - 1)
    by_cases e : M % 2 = S % 2
    · obtain ⟨i1, i2⟩ := ih (M / 2) (S / 2) hM2 h1 (by omega)
      rw [show (M - S - 1) / 2 = M / 2 - S / 2 - 1 by omega] at d
      generalize ad M (M - S - 1) = z at d m ⊢
      rw [← d] at i1 i2
      refine ⟨by omega, fun T hT hST => ?_⟩
      obtain ⟨t1, t2⟩ := sub_half hT
      have := i2 (T / 2) t1 (by omega)
      omega
    · have c := ad_comp n (M / 2) (S / 2) hM2 h1
      rw [show (M - S - 1) / 2 = M / 2 - S / 2 by omega, c] at d
      generalize ad M (M - S - 1) = z at d m ⊢
      exact ⟨by omega, fun T hT hST => by omega⟩
theorem nextS_lt {S M : Nat} (hM : M < 4096) (hs : Sub S M) (hne : S ≠ M) : S < nextS S M ∧ Sub (nextS S M) M ∧ ∀ T, Sub T M → S < T → nextS S M ≤ T := by
  have hle := hs.le
  have := nx_core 12 M S hM hs (by omega)
  unfold nextS
  rw [if_neg hne]
  exact ⟨this.1, sub_adl _ _, this.2⟩
/-! ways as lists -/
def chn (f : Nat → Nat) : List Nat → Prop
  | [] => True
  | x :: l => (∀ y, l.head? = some y → (f x).testBit y = true) ∧ chn f l
theorem chn_snoc {f : Nat → Nat} : ∀ (L : List Nat) (x : Nat), chn f (L ++ [x]) ↔ chn f L ∧ ∀ y, L.getLast? = some y → (f y).testBit x = true := by
  intro L
  induction L with
  | nil => intro x; simp [chn]
  | cons a L ih =>
    intro x
    show ((∀ y, (L ++ [x]).head? = some y → (f a).testBit y = true) ∧ chn f (L ++ [x])) ↔ ((∀ y, L.head? = some y → (f a).testBit y = true) ∧ chn f L) ∧ _
    rw [ih]
    cases L with
    | nil => simp [chn]
    | cons b L =>
      rw [show (a :: b :: L).getLast? = (b :: L).getLast? by simp [List.getLast?_cons_cons]]
      simp only [List.cons_append, List.head?_cons]
      exact ⟨fun ⟨h1, h2, h3⟩ => ⟨⟨h1, h2⟩, h3⟩, fun ⟨⟨h1, h2⟩, h3⟩ => ⟨h1, h2, h3⟩⟩
def Bg (f : Nat → Nat) (S c : Nat) : Prop := ∃ L : List Nat, L.Nodup ∧ (∀ x, S.testBit x = true ↔ x ∈ L) ∧ chn f L ∧ L.head? = some c
def En (f : Nat → Nat) (S c e : Nat) : Prop := ∃ L : List Nat, L.Nodup ∧ (∀ x, S.testBit x = true ↔ x ∈ L) ∧ chn f L ∧ L.head? = some c ∧ L.getLast? = some e
theorem Bg.en {f : Nat → Nat} {S c : Nat} (h : Bg f S c) : ∃ e, En f S c e := by
  obtain ⟨L, h1, h2, h3, h4⟩ := h
  cases hL : L.getLast? with
  | none => rw [List.getLast?_eq_none_iff] at hL; subst hL; cases h4
  | some e => exact ⟨e, L, h1, h2, h3, h4, hL⟩
theorem En.bg {f : Nat → Nat} {S c e : Nat} (h : En f S c e) : Bg f S c := by
  obtain ⟨L, h1, h2, h3, h4, -⟩ := h
  exact ⟨L, h1, h2, h3, h4⟩
theorem Bg.mem {f : Nat → Nat} {S c : Nat} (h : Bg f S c) : S.testBit c = true := by
  obtain ⟨L, -, h2, -, h4⟩ := h
  exact (h2 c).mpr (List.mem_of_head? h4)
theorem En.mem {f : Nat → Nat} {S c e : Nat} (h : En f S c e) : S.testBit e = true := by
  obtain ⟨L, -, h2, -, -, h4⟩ := h
  exact (h2 e).mpr (List.mem_of_getLast? h4)
theorem one_iff {S c : Nat} (h : S.testBit c = true) : ad S (2 ^ c) = 0 ↔ ∀ x, S.testBit x = true → x = c := by
  constructor
  · intro h0 x hx
    exact Classical.byContradiction fun z => of_zero h0 x (ad_tbP.mpr ⟨hx, fun q => z (pw_tb.mp q).symm⟩)
  · intro h1
    apply zero_of
    intro i hi
    obtain ⟨q1, q2⟩ := ad_tbP.mp hi
    exact q2 (pw_tb.mpr (h1 i q1).symm)
theorem Bg_iff {f : Nat → Nat} {S c : Nat} : Bg f S c ↔ S.testBit c = true ∧ (ad S (2 ^ c) = 0 ∨ ∃ d, Bg f (ad S (2 ^ c)) d ∧ (f c).testBit d = true) := by
  constructor
  · intro h
    refine ⟨h.mem, ?_⟩
    have hm := h.mem
    obtain ⟨L, h1, h2, h3, h4⟩ := h
    cases L with
    | nil => cases h4
    | cons a L =>
      cases h4
      obtain ⟨n1, n2⟩ := List.nodup_cons.mp h1
      cases L with
      | nil =>
        left
        rw [one_iff hm]
        intro x hx
        have := (h2 x).mp hx
        simpa using this
      | cons b L =>
        right
        refine ⟨b, ⟨b :: L, n2, fun x => ?_, h3.2, rfl⟩, h3.1 b rfl⟩
        rw [ad_tbP, pw_tb, h2]
        constructor
        · rintro ⟨q1, q2⟩
          rcases List.mem_cons.mp q1 with z | z
          · exact absurd z.symm q2
          · exact z
        · intro q
          exact ⟨List.mem_cons_of_mem _ q, fun z => n1 (by rw [z]; exact q)⟩
  · rintro ⟨hm, h0 | ⟨d, ⟨L, h1, h2, h3, h4⟩, h5⟩⟩
    · refine ⟨[c], by simp, fun x => ?_, by simp [chn], rfl⟩
      rw [List.mem_singleton]
      exact ⟨(one_iff hm).mp h0 x, fun q => by rw [q]; exact hm⟩
    · refine ⟨c :: L, List.nodup_cons.mpr ⟨fun q => ?_, h1⟩, fun x => ?_, ⟨fun y hy => by rw [h4] at hy; cases hy; exact h5, h3⟩, rfl⟩
      · have := (h2 c).mpr q
        rw [ad_out] at this; cases this
      · rw [List.mem_cons, ← h2, ad_tbP, pw_tb]
        constructor
        · intro q
          by_cases e : x = c
          · exact Or.inl e
          · exact Or.inr ⟨q, fun z => e z.symm⟩
        · rintro (q | q)
          · rw [q]; exact hm
          · exact q.1
theorem En_iff {f : Nat → Nat} {S c e : Nat} : En f S c e ↔ (S = 2 ^ c ∧ e = c) ∨ (S.testBit e = true ∧ ∃ d, En f (ad S (2 ^ e)) c d ∧ (f d).testBit e = true) := by
  constructor
  · intro h
    have hm := h.mem
    obtain ⟨L, h1, h2, h3, h4, h5⟩ := h
    obtain ⟨L', rfl⟩ := List.getLast?_eq_some_iff.mp h5
    rw [chn_snoc] at h3
    have hn := List.nodup_append.mp h1
    cases hL : L'.getLast? with
    | none =>
      rw [List.getLast?_eq_none_iff] at hL
      subst hL
      left
      cases h4
      refine ⟨tb_ext fun x => ?_, rfl⟩
      rw [h2, pw_tb]
      simp [eq_comm]
    | some d =>
      right
      have hne : L' ≠ [] := fun z => by rw [z] at hL; cases hL
      refine ⟨hm, d, ⟨L', hn.1, fun x => ?_, h3.1, ?_, hL⟩, h3.2 d hL⟩
      · rw [ad_tbP, pw_tb, h2, List.mem_append, List.mem_singleton]
        constructor
        · rintro ⟨q | q, z⟩
          · exact q
          · exact absurd q.symm z
        · intro q
          exact ⟨Or.inl q, fun z => hn.2.2 x q e (List.mem_singleton.mpr rfl) z.symm⟩
      · cases L' with
        | nil => exact absurd rfl hne
        | cons a L' => exact h4
  · rintro (⟨rfl, rfl⟩ | ⟨hm, d, ⟨L, h1, h2, h3, h4, h5⟩, h6⟩)
    · exact ⟨[e], by simp, fun x => by rw [pw_tb, List.mem_singleton]; exact eq_comm, by simp [chn], rfl, rfl⟩
    · refine ⟨L ++ [e], ?_, fun x => ?_, (chn_snoc L e).mpr ⟨h3, fun y hy => by rw [h5] at hy; cases hy; exact h6⟩, ?_, by simp⟩
      · refine List.nodup_append.mpr ⟨h1, by simp, fun a ha b hb hab => ?_⟩
        rw [List.mem_singleton] at hb
        subst hab; subst hb
        have := (h2 a).mpr ha
        rw [ad_out] at this; cases this
      · rw [List.mem_append, List.mem_singleton, ← h2, ad_tbP, pw_tb]
        constructor
        · intro q
          by_cases z : x = e
          · exact Or.inr z
          · exact Or.inl ⟨q, fun y => z y.symm⟩
        · rintro (q | q)
          · exact q.1
          · rw [q]; exact hm
      · rw [List.head?_append, h4]; rfl
/-! the class's table -/
theorem stOf_tb {f st : Nat → Nat} {S c : Nat} : (stOf f st S).testBit c = true ↔ c < 12 ∧ S.testBit c = true ∧ (ad S (2 ^ c) = 0 ∨ st (ad S (2 ^ c)) &&& f c ≠ 0) := by
  unfold stOf
  rw [fold_congr 12 0 0 (g := fun c r => if (S.testBit c && decide (ad S (2 ^ c) = 0 ∨ st (ad S (2 ^ c)) &&& f c ≠ 0)) = true then r ||| 2 ^ c else r) (fun j y _ _ => by
    unfold stStep
    by_cases h : S.testBit j = true
    · rw [if_pos h]
      by_cases h2 : ad S (2 ^ j) = 0 ∨ st (ad S (2 ^ j)) &&& f j ≠ 0
      · rw [if_pos h2, if_pos (by rw [h, decide_eq_true h2]; rfl)]
      · rw [if_neg h2, if_neg (by rw [h, decide_eq_false h2]; decide)]
    · rw [if_neg h, if_neg (fun z => h (by simp only [Bool.and_eq_true] at z; exact z.1))]), fold_or_tb (P := fun c => S.testBit c && decide (ad S (2 ^ c) = 0 ∨ st (ad S (2 ^ c)) &&& f c ≠ 0)), Nat.zero_testBit]
  simp
theorem ffNew_tb {near S b k c : Nat} {fi : Nat → Nat} : (ffNew near fi S b k).testBit c = true ↔ (fi k).testBit c = true ∨ (k = pop S ∧ b.testBit c = true ∧ near.testBit c = true) := by
  unfold ffNew
  by_cases h : b &&& near ≠ 0
  · rw [if_pos h]
    unfold un
    by_cases e : k = pop S
    · subst e
      rw [if_pos rfl, or_tb, and_tb]
      exact ⟨fun z => z.elim Or.inl (fun q => Or.inr ⟨rfl, q.1, q.2⟩), fun z => z.elim Or.inl (fun q => Or.inr ⟨q.2.1, q.2.2⟩)⟩
    · rw [if_neg e]
      exact ⟨Or.inl, fun z => z.elim id (fun q => absurd q.1 e)⟩
  · rw [if_neg h]
    have h : b &&& near = 0 := Classical.byContradiction h
    exact ⟨Or.inl, fun z => z.elim id (fun q => absurd (and_tb.mpr ⟨q.2.1, q.2.2⟩) (of_zero h c))⟩
theorem ff_spec {f : Nat → Nat} {near M : Nat} (hM : M < 4096) : ∀ (n S : Nat) (st fi : Nat → Nat), 4096 ≤ n + S → Sub S M → (∀ T, T ≠ 0 → Sub T M → T ≤ S → ∀ c, (st T).testBit c = true ↔ Bg f T c) → (∀ k c, (fi k).testBit c = true ↔ near.testBit c = true ∧ ∃ T, T ≠ 0 ∧ Sub T M ∧ T ≤ S ∧ pop T = k ∧ Bg f T c) →
    ∀ k c, ((ffLoop f near M n S st fi).2 k).testBit c = true ↔ near.testBit c = true ∧ ∃ T, T ≠ 0 ∧ Sub T M ∧ pop T = k ∧ Bg f T c := by
  intro n
  induction n with
  | zero => intro S st fi hn hs; have := hs.le; omega
  | succ n ih =>
    intro S st fi hn hs hst hfi k c
    rw [ffLoop_s]
    by_cases h0 : nextS S M = 0
    · rw [if_pos h0]
      have e : S = M := Classical.byContradiction fun z => by have := (nextS_lt hM hs z).1; omega
      rw [hfi]
      constructor
      · rintro ⟨q, T, q1, q2, -, q4, q5⟩; exact ⟨q, T, q1, q2, q4, q5⟩
      · rintro ⟨q, T, q1, q2, q4, q5⟩; exact ⟨q, T, q1, q2, by rw [e]; exact q2.le, q4, q5⟩
    · rw [if_neg h0]
      have hne : S ≠ M := fun z => h0 (by unfold nextS; rw [if_pos z])
      obtain ⟨l1, l2, l3⟩ := nextS_lt hM hs hne
      generalize nextS S M = S' at h0 l1 l2 l3 ⊢
      have hS' : S' < 4096 := Nat.lt_of_le_of_lt l2.le hM
      have hnew : ∀ c, (stOf f st S').testBit c = true ↔ Bg f S' c := fun c => by
        rw [stOf_tb, Bg_iff]
        have key : ∀ c, S'.testBit c = true → (st (ad S' (2 ^ c)) &&& f c ≠ 0 ↔ ad S' (2 ^ c) ≠ 0 ∧ st (ad S' (2 ^ c)) &&& f c ≠ 0 ∨ ad S' (2 ^ c) = 0 ∧ st (ad S' (2 ^ c)) &&& f c ≠ 0) := fun c _ => by
          by_cases z : ad S' (2 ^ c) = 0
          · exact ⟨fun q => Or.inr ⟨z, q⟩, fun q => q.elim (fun y => y.2) (fun y => y.2)⟩
          · exact ⟨fun q => Or.inl ⟨z, q⟩, fun q => q.elim (fun y => y.2) (fun y => y.2)⟩
        have hsm : ∀ c, S'.testBit c = true → ad S' (2 ^ c) ≠ 0 → ∀ d, (st (ad S' (2 ^ c))).testBit d = true ↔ Bg f (ad S' (2 ^ c)) d := fun c hc hz d => by
          have hsub : Sub (ad S' (2 ^ c)) M := (sub_adl _ _).tr l2
          have hlt : ad S' (2 ^ c) < S' := by
            have h1 := (sub_adl S' (2 ^ c)).le
            have h2 : ad S' (2 ^ c) ≠ S' := fun z => by have := ad_out S' c; rw [z, hc] at this; cases this
            omega
          refine hst _ hz hsub ?_ d
          exact Nat.le_of_not_lt fun z => by have := l3 _ hsub z; omega
        constructor
        · rintro ⟨q1, q2, q3⟩
          refine ⟨q2, ?_⟩
          by_cases z : ad S' (2 ^ c) = 0
          · exact Or.inl z
          · right
            obtain ⟨d, hd⟩ : ∃ d, (st (ad S' (2 ^ c)) &&& f c).testBit d = true := Nat.exists_testBit_of_ne_zero (q3.resolve_left z)
            obtain ⟨d1, d2⟩ := and_tb.mp hd
            exact ⟨d, (hsm c q2 z d).mp d1, d2⟩
        · rintro ⟨q2, q3⟩
          refine ⟨tb12 hS' q2, q2, ?_⟩
          by_cases z : ad S' (2 ^ c) = 0
          · exact Or.inl z
          · right
            obtain ⟨d, d1, d2⟩ := q3.resolve_left z
            exact fun y => of_zero y d (and_tb.mpr ⟨(hsm c q2 z d).mpr d1, d2⟩)
      refine ih S' _ _ (by omega) l2 (fun T t1 t2 t3 c => ?_) (fun k c => ?_) k c
      · by_cases e : T = S'
        · subst e; rw [un_same]; exact hnew c
        · rw [un_ne e]
          exact hst T t1 t2 (Nat.le_of_not_lt fun z => by have := l3 T t2 z; omega) c
      · rw [ffNew_tb, hfi, hnew]
        constructor
        · rintro (⟨q, T, q1, q2, q3, q4, q5⟩ | ⟨q1, q2, q3⟩)
          · exact ⟨q, T, q1, q2, by omega, q4, q5⟩
          · exact ⟨q3, S', h0, l2, Nat.le_refl _, q1.symm, q2⟩
        · rintro ⟨q, T, q1, q2, q3, q4, q5⟩
          by_cases e : T = S'
          · subst e; exact Or.inr ⟨q4.symm, q5, q⟩
          · exact Or.inl ⟨q, T, q1, q2, Nat.le_of_not_lt fun z => by have := l3 T q2 z; omega, q4, q5⟩
/-- a part is closed -/
theorem part_cls {f : Nat → Nat} {room : Nat} (hr : room < 4096) : ∀ (n p : Nat), p < 4096 → 13 ≤ pop p + n → Sub (spread f (partFrom f room n p) &&& room) (partFrom f room n p) := by
  intro n
  induction n with
  | zero => intro p _ h; have := pop_le p; omega
  | succ n ih =>
    intro p hp h
    unfold partFrom
    by_cases e : p ||| (spread f p &&& room) = p
    · rw [if_pos e]
      intro i hi
      rw [← e]; exact or_tb.mpr (Or.inr hi)
    · rw [if_neg e]
      have hb : p ||| (spread f p &&& room) < 4096 := or_b hp (and_bR hr)
      have := pop_grow hb e
      exact ih _ hb (by omega)
theorem chn_in {f : Nat → Nat} {room P : Nat} (hP : P < 4096) (hc : Sub (spread f P &&& room) P) : ∀ L : List Nat, chn f L → (∀ x, x ∈ L → room.testBit x = true) → (∀ x, L.head? = some x → P.testBit x = true) → ∀ x, x ∈ L → P.testBit x = true := by
  intro L
  induction L with
  | nil => intro _ _ _ x hx; cases hx
  | cons a L ih =>
    intro h1 h2 h3 x hx
    have ha := h3 a rfl
    rcases List.mem_cons.mp hx with e | e
    · rw [e]; exact ha
    · exact ih h1.2 (fun y hy => h2 y (List.mem_cons_of_mem _ hy)) (fun y hy => hc y (and_tb.mpr ⟨spread_tb.mpr ⟨a, tb12 hP ha, ha, h1.1 y hy⟩, h2 y (List.mem_cons_of_mem _ (List.mem_of_head? hy))⟩)) x e
/-- a way of k cells that begins at c, next to the own cell -/
def Wy (f : Nat → Nat) (s room c k : Nat) : Prop := (f s).testBit c = true ∧ ∃ T, Sub T room ∧ pop T = k ∧ Bg f T c
theorem ffF_tb {f : Nat → Nat} (hf : Gr f) {s room : Nat} (hs : s < 12) (hr : room < 4096) (st0 : Nat → Nat) (k c : Nat) : ((ffF f s room st0).2 k).testBit c = true ↔ Wy f s room c k := by
  have hM : partF f room (2 ^ s) &&& room < 4096 := and_bR hr
  have hpb : partF f room (2 ^ s) < 4096 := partFrom_b hf.2.2 room 12 _ (pw_b hs)
  have hcl : Sub (spread f (partF f room (2 ^ s)) &&& room) (partF f room (2 ^ s)) := part_cls hr 12 (2 ^ s) (pw_b hs) (by rw [pop_pw hs]; omega)
  have h := ff_spec (f := f) (near := f s) hM 4096 0 st0 (fun _ => 0) (by decide) (fun i hi => absurd hi (of_zero rfl i)) (fun T t1 _ t3 => by omega) (fun k c => by
    rw [Nat.zero_testBit]
    exact ⟨fun z => Bool.noConfusion z, fun ⟨_, T, t1, _, t3, _⟩ => by omega⟩) k c
  unfold ffF
  rw [h]
  constructor
  · rintro ⟨q, T, q1, q2, q3, q4⟩
    exact ⟨q, T, fun i hi => (and_tb.mp (q2 i hi)).2, q3, q4⟩
  · rintro ⟨q, T, q2, q3, q4⟩
    refine ⟨q, T, fun z => of_zero z c q4.mem, fun i hi => ?_, q3, q4⟩
    obtain ⟨L, l1, l2, l3, l4⟩ := q4
    have hown : (partF f room (2 ^ s)).testBit s = true := part_sup 12 _ (pw_tb.mpr rfl)
    have hc : (partF f room (2 ^ s)).testBit c = true := hcl c (and_tb.mpr ⟨spread_tb.mpr ⟨s, hs, hown, q⟩, q2 c ((l2 c).mpr (List.mem_of_head? l4))⟩)
    exact and_tb.mpr ⟨chn_in hpb hcl L l3 (fun x hx => q2 x ((l2 x).mpr hx)) (fun x hx => by rw [l4] at hx; cases hx; exact hc) i ((l2 i).mp hi), q2 i hi⟩
/-! the reference's table -/
theorem gi_tb {nx S e T x : Nat} {E : Nat → Nat} : (giStep nx S e E T).testBit x = true ↔ (E T).testBit x = true ∨ (nx.testBit e = true ∧ T = S ||| 2 ^ e ∧ x = e) := by
  unfold giStep
  by_cases h : nx.testBit e = true
  · rw [if_pos h]
    unfold un
    by_cases q : T = S ||| 2 ^ e
    · subst q
      rw [if_pos rfl, or_tb, pw_tb]
      exact ⟨fun z => z.elim Or.inl (fun y => Or.inr ⟨h, rfl, y.symm⟩), fun z => z.elim Or.inl (fun y => Or.inr y.2.2.symm)⟩
    · rw [if_neg q]
      exact ⟨Or.inl, fun z => z.elim id (fun y => absurd y.2.1 q)⟩
  · rw [if_neg h]
    exact ⟨Or.inl, fun z => z.elim id (fun y => absurd y.1 h)⟩
theorem giF_tb {nx S T x : Nat} : ∀ (n e0 : Nat) (E : Nat → Nat), (fold (giStep nx S) n e0 E T).testBit x = true ↔ (E T).testBit x = true ∨ (e0 ≤ x ∧ x < e0 + n ∧ nx.testBit x = true ∧ T = S ||| 2 ^ x) := by
  intro n
  induction n with
  | zero => intro e0 E; exact ⟨Or.inl, fun h => h.elim id (fun q => by omega)⟩
  | succ n ih =>
    intro e0 E
    simp only [fold]
    rw [ih, gi_tb]
    constructor
    · rintro ((h | ⟨h1, h2, h3⟩) | ⟨h1, h2, h3, h4⟩)
      · exact Or.inl h
      · subst h3; exact Or.inr ⟨Nat.le_refl _, by omega, h1, h2⟩
      · exact Or.inr ⟨by omega, by omega, h3, h4⟩
    · rintro (h | ⟨h1, h2, h3, h4⟩)
      · exact Or.inl (Or.inl h)
      · by_cases e : x = e0
        · subst e; exact Or.inl (Or.inr ⟨h3, h4, rfl⟩)
        · exact Or.inr ⟨by omega, by omega, h3, h4⟩
theorem goF_tb {f : Nat → Nat} {fr may N S : Nat} {E : Nat → Nat} (T x : Nat) : (goF f fr may N S E T).testBit x = true ↔ (E T).testBit x = true ∨ ∃ c, c < N ∧ (E S).testBit c = true ∧ (gnx f fr may S c).testBit x = true ∧ x < N ∧ T = S ||| 2 ^ x := by
  have nself : ∀ c x, (gnx f fr may S c).testBit x = true → S ≠ S ||| 2 ^ x := fun c x hx z => by
    have h1 := (ad_tbP.mp hx).2
    apply h1
    rw [z]; exact or_tb.mpr (Or.inr (pw_tb.mpr rfl))
  have h := fold_ind (step := goStep f fr may N S) (P := fun j E' => ∀ T x, (E' T).testBit x = true ↔ (E T).testBit x = true ∨ ∃ c, c < j ∧ (E S).testBit c = true ∧ (gnx f fr may S c).testBit x = true ∧ x < N ∧ T = S ||| 2 ^ x) N 0 E
    (fun T x => ⟨Or.inl, fun z => z.elim id (fun ⟨c, hc, _⟩ => absurd hc (Nat.not_lt_zero _))⟩) (fun j E' _ _ hE T x => by
      have hself : (E' S).testBit j = true ↔ (E S).testBit j = true := by
        rw [hE S j]
        exact ⟨fun z => z.elim id (fun ⟨c, _, _, q, _, q2⟩ => absurd q2 (nself c j q)), Or.inl⟩
      unfold goStep
      by_cases hb : (E' S).testBit j = true
      · rw [if_pos hb, giF_tb, hE T x]
        constructor
        · rintro ((q | ⟨c, q1, q2⟩) | ⟨-, q2, q3, q4⟩)
          · exact Or.inl q
          · exact Or.inr ⟨c, by omega, q2⟩
          · exact Or.inr ⟨j, Nat.lt_succ_self _, hself.mp hb, q3, by omega, q4⟩
        · rintro (q | ⟨c, q1, q2, q3, q4, q5⟩)
          · exact Or.inl (Or.inl q)
          · by_cases e : c = j
            · subst e; exact Or.inr ⟨Nat.zero_le _, by omega, q3, q5⟩
            · exact Or.inl (Or.inr ⟨c, by omega, q2, q3, q4, q5⟩)
      · rw [if_neg hb, hE T x]
        constructor
        · rintro (q | ⟨c, q1, q2⟩)
          · exact Or.inl q
          · exact Or.inr ⟨c, by omega, q2⟩
        · rintro (q | ⟨c, q1, q2, q3⟩)
          · exact Or.inl q
          · by_cases e : c = j
            · subst e; exact absurd (hself.mpr q2) hb
            · exact Or.inr ⟨c, by omega, q2, q3⟩)
  rw [Nat.zero_add] at h
  exact h T x
/-- the own cell, and a way from c to e -/
def Qw (f : Nat → Nat) (s room c T e : Nat) : Prop := T.testBit s = true ∧ Sub (ad T (2 ^ s)) room ∧ En f (ad T (2 ^ s)) c e
theorem lb_spec {f : Nat → Nat} {fr may N s c room : Nat} (hN : N ≤ 12) (hrm : ∀ x, room.testBit x = true ↔ fr.testBit x = true ∧ may.testBit x = true ∧ x ≠ s) (hroom : ∀ x, room.testBit x = true → x < N) (hs : s < N) (hc : room.testBit c = true) :
    (∃ T e, Qw f s room c T e ∧ pop T = lbF f fr may N s c) ∧ ∀ T e, Qw f s room c T e → pop T ≤ lbF f fr may N s c := by
  have hcN := hroom c hc
  have hcs : c ≠ s := ((hrm c).mp hc).2.2
  have hbg : 2 ^ s ||| 2 ^ c < 2 ^ N := Nat.or_lt_two_pow (Nat.pow_lt_pow_right (by decide) hs) (Nat.pow_lt_pow_right (by decide) hcN)
  have hP : 2 ^ N ≤ 4096 := Nat.pow_le_pow_right (n := 2) (by decide) hN
  have hadb : ad (2 ^ s ||| 2 ^ c) (2 ^ s) = 2 ^ c := tb_ext fun x => by
    rw [ad_tbP, or_tb, pw_tb, pw_tb]
    exact ⟨fun ⟨h1, h2⟩ => h1.resolve_left h2, fun h => ⟨Or.inr h, fun z => hcs (h.trans z.symm)⟩⟩
  have hQ0 : Qw f s room c (2 ^ s ||| 2 ^ c) c := ⟨or_tb.mpr (Or.inl (pw_tb.mpr rfl)), by rw [hadb]; exact fun x hx => by rw [← pw_tb.mp hx]; exact hc, by rw [hadb]; exact En_iff.mpr (Or.inl ⟨rfl, rfl⟩)⟩
  have hQlt : ∀ T e, Qw f s room c T e → T < 2 ^ N := fun T e h => Nat.lt_pow_two_of_testBit _ fun i hi => by
    cases q : T.testBit i with
    | false => rfl
    | true =>
      exfalso
      by_cases z : i = s
      · omega
      · have := hroom i (h.2.1 i (ad_tbP.mpr ⟨q, fun y => z (pw_tb.mp y).symm⟩)); omega
  have hQge : ∀ T e, Qw f s room c T e → 2 ^ s ||| 2 ^ c ≤ T := fun T e h => Sub.le fun i hi => by
    rcases or_tb.mp hi with q | q
    · rw [← pw_tb.mp q]; exact h.1
    · rw [← pw_tb.mp q]; exact (ad_tbP.mp h.2.2.bg.mem).1
  have hQe : ∀ T e, Qw f s room c T e → T.testBit e = true ∧ e ≠ s := fun T e h => by
    obtain ⟨h1, h2⟩ := ad_tbP.mp h.2.2.mem
    exact ⟨h1, fun z => h2 (pw_tb.mpr z.symm)⟩
  -- one back
  have hQb : ∀ T e, Qw f s room c T e → (T = 2 ^ s ||| 2 ^ c ∧ e = c) ∨ ∃ d, Qw f s room c (ad T (2 ^ e)) d ∧ (f d).testBit e = true := fun T e h => by
    have he := hQe T e h
    rcases En_iff.mp h.2.2 with ⟨q1, q2⟩ | ⟨-, d, q2, q3⟩
    · left
      refine ⟨?_, q2⟩
      rw [← q1, Nat.or_comm, ad_put h.1]
    · right
      have ec : ad (ad T (2 ^ s)) (2 ^ e) = ad (ad T (2 ^ e)) (2 ^ s) := tb_ext fun x => by
        rw [ad_tbP, ad_tbP, ad_tbP, ad_tbP]
        exact ⟨fun ⟨⟨y1, y2⟩, y3⟩ => ⟨⟨y1, y3⟩, y2⟩, fun ⟨⟨y1, y2⟩, y3⟩ => ⟨⟨y1, y3⟩, y2⟩⟩
      refine ⟨d, ⟨ad_tbP.mpr ⟨h.1, fun z => he.2 (pw_tb.mp z)⟩, ?_, ?_⟩, q3⟩
      · rw [← ec]; exact (sub_adl _ _).tr h.2.1
      · rw [← ec]; exact q2
  have hQf : ∀ S d e, Qw f s room c S d → (f d).testBit e = true → room.testBit e = true → ¬ S.testBit e = true → Qw f s room c (S ||| 2 ^ e) e := fun S d e h h1 h2 h3 => by
    have hes : e ≠ s := ((hrm e).mp h2).2.2
    have ea : ad (S ||| 2 ^ e) (2 ^ s) = ad S (2 ^ s) ||| 2 ^ e := tb_ext fun x => by
      rw [ad_tbP, or_tb, or_tb, ad_tbP, pw_tb, pw_tb]
      constructor
      · rintro ⟨y1 | y1, y2⟩
        · exact Or.inl ⟨y1, y2⟩
        · exact Or.inr y1
      · rintro (⟨y1, y2⟩ | y1)
        · exact ⟨Or.inl y1, y2⟩
        · exact ⟨Or.inr y1, fun z => hes (y1.trans z.symm)⟩
    refine ⟨or_tb.mpr (Or.inl h.1), ?_, ?_⟩
    · rw [ea]
      intro x hx
      rcases or_tb.mp hx with q | q
      · exact h.2.1 x q
      · rw [← pw_tb.mp q]; exact h2
    · rw [ea]
      refine En_iff.mpr (Or.inr ⟨or_tb.mpr (Or.inr (pw_tb.mpr rfl)), d, ?_, h1⟩)
      have : ad (ad S (2 ^ s) ||| 2 ^ e) (2 ^ e) = ad S (2 ^ s) := tb_ext fun x => by
        rw [ad_tbP, or_tb, pw_tb]
        constructor
        · rintro ⟨y1, y2⟩; exact y1.resolve_right y2
        · intro y; exact ⟨Or.inl y, fun z => by subst z; exact h3 (ad_tbP.mp y).1⟩
      rw [this]; exact h.2.2
  have hA0 : ∀ T e, ((un (fun _ => 0) (2 ^ s ||| 2 ^ c) (2 ^ c)) T).testBit e = true → Qw f s room c T e := fun T e he => by
    unfold un at he
    by_cases q : T = 2 ^ s ||| 2 ^ c
    · rw [if_pos q] at he
      have := pw_tb.mp he
      subst this; subst q; exact hQ0
    · rw [if_neg q, Nat.zero_testBit] at he
      exact Bool.noConfusion he
  have hB0 : ∀ T e, Qw f s room c T e → (T = 2 ^ s ||| 2 ^ c ∧ e = c) ∨ ad T (2 ^ e) < 2 ^ s ||| 2 ^ c → ((un (fun _ => 0) (2 ^ s ||| 2 ^ c) (2 ^ c)) T).testBit e = true := fun T e hq h => by
    have hb : T = 2 ^ s ||| 2 ^ c ∧ e = c := by
      rcases h with h | h
      · exact h
      · rcases hQb T e hq with q | ⟨d, q, _⟩
        · exact q
        · exact absurd (hQge _ d q) (Nat.not_le.mpr h)
    obtain ⟨e1, e2⟩ := hb
    subst e1; subst e2
    rw [un_same]; exact pw_tb.mpr rfl
  have h := fold_ind (step := lbStep f fr may N) (P := fun S p => (∀ T e, (p.1 T).testBit e = true → Qw f s room c T e) ∧ (∀ T e, Qw f s room c T e → (T = 2 ^ s ||| 2 ^ c ∧ e = c) ∨ ad T (2 ^ e) < S → (p.1 T).testBit e = true) ∧ (∀ T e, Qw f s room c T e → T < S → pop T ≤ p.2) ∧ (p.2 = 0 ∨ ∃ T e, Qw f s room c T e ∧ pop T = p.2))
    (2 ^ N - (2 ^ s ||| 2 ^ c)) (2 ^ s ||| 2 ^ c) (un (fun _ => 0) (2 ^ s ||| 2 ^ c) (2 ^ c), 0)
    ⟨hA0, hB0, fun T e hq h => absurd (hQge T e hq) (Nat.not_le.mpr h), Or.inl rfl⟩ (fun S p hS1 hS2 hp => by
      obtain ⟨E, m⟩ := p
      obtain ⟨hA, hB, hC, hD⟩ := hp
      simp only at hA hB hC hD
      have hSN : S < 2 ^ N := by omega
      have hES : ∀ e, (E S).testBit e = true ↔ Qw f s room c S e := fun e => ⟨hA S e, fun hq => hB S e hq (Or.inr (by
        have he := (hQe S e hq).1
        have h1 := (sub_adl S (2 ^ e)).le
        have h2 : ad S (2 ^ e) ≠ S := fun z => by have := ad_out S e; rw [z, he] at this; cases this
        omega))⟩
      unfold lbStep
      simp only
      by_cases h0 : E S ≠ 0
      · rw [if_pos h0]
        refine ⟨fun T e he => ?_, fun T e hq h => ?_, fun T e hq h => ?_, ?_⟩
        · simp only at he
          rw [goF_tb] at he
          rcases he with he | ⟨d, d1, d2, d3, d4, rfl⟩
          · exact hA T e he
          · have hSs : S.testBit s = true := ((hES d).mp d2).1
            obtain ⟨g1, g2⟩ := ad_tbP.mp d3
            obtain ⟨g3, g4⟩ := and_tb.mp g1
            obtain ⟨g5, g6⟩ := and_tb.mp g3
            exact hQf S d e ((hES d).mp d2) g5 ((hrm e).mpr ⟨g6, g4, fun z => by subst z; exact g2 hSs⟩) g2
        · show (goF f fr may N S E T).testBit e = true
          rw [goF_tb]
          by_cases hlt : ad T (2 ^ e) < S
          · exact Or.inl (hB T e hq (Or.inr hlt))
          · rcases hQb T e hq with q | ⟨d, q1, q2⟩
            · exact Or.inl (hB T e hq (Or.inl q))
            · have heq : ad T (2 ^ e) = S := by
                rcases h with z | z
                · have := hQge _ d q1
                  have e1 := (hQe T e hq).1
                  have h1 := (sub_adl T (2 ^ e)).le
                  have h2 : ad T (2 ^ e) ≠ T := fun y => by have := ad_out T e; rw [y, e1] at this; cases this
                  rw [z.1] at this h1 h2
                  omega
                · omega
              right
              have he := hQe T e hq
              have hre := hq.2.1 e (ad_tbP.mpr ⟨he.1, fun z => he.2 (pw_tb.mp z).symm⟩)
              have hr2 := (hrm e).mp hre
              rw [heq] at q1
              have hd := hQe S d q1
              have hrd := q1.2.1 d (ad_tbP.mpr ⟨hd.1, fun z => hd.2 (pw_tb.mp z).symm⟩)
              refine ⟨d, hroom d hrd, (hES d).mpr q1, ?_, hroom e hre, ?_⟩
              · unfold gnx
                refine ad_tbP.mpr ⟨and_tb.mpr ⟨and_tb.mpr ⟨q2, hr2.1⟩, hr2.2.1⟩, ?_⟩
                rw [← heq, ad_out]; decide
              · rw [← heq, ad_put he.1]
        · show pop T ≤ max m (pop S)
          by_cases e1 : T = S
          · subst e1; exact Nat.le_max_right _ _
          · exact Nat.le_trans (hC T e hq (by omega)) (Nat.le_max_left _ _)
        · show max m (pop S) = 0 ∨ ∃ T e, Qw f s room c T e ∧ pop T = max m (pop S)
          obtain ⟨e, he⟩ : ∃ e, (E S).testBit e = true := Nat.exists_testBit_of_ne_zero h0
          have hq := (hES e).mp he
          by_cases hm : m ≤ pop S
          · exact Or.inr ⟨S, e, hq, (Nat.max_eq_right hm).symm⟩
          · rw [Nat.max_eq_left (by omega)]; exact hD
      · rw [if_neg h0]
        have h0 : E S = 0 := Classical.byContradiction h0
        refine ⟨hA, fun T e hq h => ?_, fun T e hq h => ?_, hD⟩
        · by_cases hlt : ad T (2 ^ e) < S
          · exact hB T e hq (Or.inr hlt)
          · rcases hQb T e hq with q | ⟨d, q1, q2⟩
            · exact hB T e hq (Or.inl q)
            · rcases h with z | z
              · exact hB T e hq (Or.inl z)
              · have heq : ad T (2 ^ e) = S := by omega
                rw [heq] at q1
                exact absurd ((hES d).mpr q1) (of_zero h0 d)
        · by_cases e1 : T = S
          · subst e1; exact absurd ((hES e).mpr hq) (of_zero h0 e)
          · exact hC T e hq (by omega))
  rw [show (2 ^ s ||| 2 ^ c) + (2 ^ N - (2 ^ s ||| 2 ^ c)) = 2 ^ N from Nat.add_sub_of_le (Nat.le_of_lt hbg)] at h
  obtain ⟨-, -, hC, hD⟩ := h
  have hC2 : ∀ T e, Qw f s room c T e → pop T ≤ lbF f fr may N s c := fun T e hq => hC T e hq (hQlt T e hq)
  refine ⟨?_, hC2⟩
  rcases hD with z | z
  · exfalso
    have h1 := hC2 _ _ hQ0
    have h2 := pop_pos (show 2 ^ s ||| 2 ^ c < 4096 by omega) (fun y => of_zero y s (or_tb.mpr (Or.inl (pw_tb.mpr rfl))))
    unfold lbF at h1
    omega
  · exact z
/-! both together -/
theorem mb_spec (fi : Nat → Nat) : ∀ k, (mbF fi k = 0 ∧ ∀ j, 1 ≤ j → j ≤ k → fi j = 0) ∨ (1 ≤ mbF fi k ∧ mbF fi k ≤ k ∧ fi (mbF fi k) ≠ 0 ∧ ∀ j, mbF fi k < j → j ≤ k → fi j = 0) := by
  intro k
  induction k with
  | zero => exact Or.inl ⟨rfl, fun j h1 h2 => by omega⟩
  | succ k ih =>
    unfold mbF
    by_cases h : fi (k + 1) ≠ 0
    · rw [if_pos h]; exact Or.inr ⟨by omega, Nat.le_refl _, h, fun j h1 h2 => by omega⟩
    · rw [if_neg h]
      have h : fi (k + 1) = 0 := Classical.byContradiction h
      rcases ih with ⟨h1, h2⟩ | ⟨h1, h2, h3, h4⟩
      · refine Or.inl ⟨h1, fun j q1 q2 => ?_⟩
        by_cases e : j = k + 1
        · rw [e]; exact h
        · exact h2 j q1 (by omega)
      · refine Or.inr ⟨h1, by omega, h3, fun j q1 q2 => ?_⟩
        by_cases e : j = k + 1
        · rw [e]; exact h
        · exact h4 j q1 (by omega)
theorem nth_0 : nth 0 0 = none := by decide
theorem way_eq {C N fr lp : Nat} {ks sts st0 : Nat → Nat} {j : Nat} (hN : N ≤ 12) (hfr : fr < 2 ^ N) (hj : j < lp) (hs : sts j < N) (hks : ks j < 5) :
    (wayM C N fr lp ks sts j).1 = 1 + mbF (ffF (fanF C N (ks j)) (sts j) (emptyF fr lp sts) st0).2 12 ∧ (wayM C N fr lp ks sts j).2 = nth ((ffF (fanF C N (ks j)) (sts j) (emptyF fr lp sts) st0).2 (mbF (ffF (fanF C N (ks j)) (sts j) (emptyF fr lp sts) st0).2 12)) 0 := by
  have h12 : 2 ^ N ≤ 4096 := Nat.pow_le_pow_right (n := 2) (by decide) hN
  have hf := fan_gr C N (ks j) hN
  have hfr2 : fr < 4096 := by omega
  have hr : emptyF fr lp sts < 4096 := empty_b hfr2
  have hfN : ∀ x, fr.testBit x = true → x < N := fun x hx => Nat.lt_of_not_le fun z => by
    rw [Nat.testBit_lt_two_pow (Nat.lt_of_lt_of_le hfr (Nat.pow_le_pow_right (by decide) z))] at hx; cases hx
  have hroom : ∀ x, (emptyF fr lp sts).testBit x = true → x < N := fun x hx => hfN x (empty_tb.mp hx).1
  have hrm : ∀ x, (emptyF fr lp sts).testBit x = true ↔ fr.testBit x = true ∧ (ad fr (othF lp sts j)).testBit x = true ∧ x ≠ sts j := fun x => by
    rw [empty_tb, room_tb]
    constructor
    · rintro ⟨h1, h2⟩
      exact ⟨h1, ⟨h1, fun l hl e => absurd e (h2 l hl)⟩, fun z => h2 j hj z.symm⟩
    · rintro ⟨h1, ⟨-, h2⟩, h3⟩
      exact ⟨h1, fun l hl e => h3 (h2 l hl e)⟩
  have hgo : ∀ c, (gol C N fr lp ks sts j).testBit c = true ↔ (fanF C N (ks j) (sts j)).testBit c = true ∧ (emptyF fr lp sts).testBit c = true := fun c => by
    unfold gol wat
    rw [and_tb, and_tb]
    exact ⟨fun ⟨⟨h1, _⟩, h2⟩ => ⟨h1, h2⟩, fun ⟨h1, h2⟩ => ⟨⟨h1, (empty_tb.mp h2).1⟩, h2⟩⟩
  have hfi := fun k c => ffF_tb (s := sts j) hf (by omega) hr st0 k c
  unfold wayM
  generalize (ffF (fanF C N (ks j)) (sts j) (emptyF fr lp sts) st0).2 = fi at hfi ⊢
  generalize gol C N fr lp ks sts j = go at hgo ⊢
  generalize hL : lbF (fanF C N (ks j)) fr (ad fr (othF lp sts j)) N (sts j) = L
  -- what the reference tells of a first cell
  have hLc : ∀ c, go.testBit c = true → ∃ k, Wy (fanF C N (ks j)) (sts j) (emptyF fr lp sts) c k ∧ L c = 1 + k ∧ ∀ k', Wy (fanF C N (ks j)) (sts j) (emptyF fr lp sts) c k' → k' ≤ k := fun c hc => by
    obtain ⟨hc1, hc2⟩ := (hgo c).mp hc
    obtain ⟨⟨T, e, q1, q2⟩, q3⟩ := lb_spec (f := fanF C N (ks j)) hN hrm hroom hs hc2
    rw [hL] at q2 q3
    have hsj : sts j < 12 := by omega
    have ownOut : ∀ T', Sub T' (emptyF fr lp sts) → T'.testBit (sts j) = false := fun T' hT' => by
      cases z : T'.testBit (sts j) with
      | false => rfl
      | true => exact absurd rfl ((hrm _).mp (hT' _ z)).2.2
    refine ⟨pop (ad T (2 ^ sts j)), ⟨hc1, _, q1.2.1, rfl, q1.2.2.bg⟩, ?_, fun k' ⟨_, T', t1, t2, t3⟩ => ?_⟩
    · have := pop_take hsj q1.1; omega
    · obtain ⟨e', he'⟩ := t3.en
      have hout := ownOut T' t1
      have ea : ad (T' ||| 2 ^ sts j) (2 ^ sts j) = T' := tb_ext fun x => by
        rw [ad_tbP, or_tb, pw_tb]
        exact ⟨fun ⟨y1, y2⟩ => y1.resolve_right y2, fun y => ⟨Or.inl y, fun z => by subst z; rw [hout] at y; cases y⟩⟩
      have := q3 (T' ||| 2 ^ sts j) e' ⟨or_tb.mpr (Or.inr (pw_tb.mpr rfl)), by rw [ea]; exact t1, by rw [ea]; exact he'⟩
      have hp := pop_put hsj hout
      have hp2 := pop_take hsj q1.1
      omega
  have hW1 : ∀ c k, Wy (fanF C N (ks j)) (sts j) (emptyF fr lp sts) c k → go.testBit c = true ∧ 1 ≤ k ∧ k ≤ 12 := fun c k ⟨h1, T, h2, h3, h4⟩ => by
    have hm := h4.mem
    have := pop_pos (Nat.lt_of_le_of_lt h2.le hr) (fun z => of_zero z c hm)
    have := pop_le T
    exact ⟨(hgo c).mpr ⟨h1, h2 c hm⟩, by omega, by omega⟩
  have h := fold_ind (step := wyStep go L) (P := fun c p => (p = (1, none) ∧ ∀ c', c' < c → go.testBit c' = false) ∨ ∃ c0 k, c0 < c ∧ p = (1 + k, some c0) ∧ Wy (fanF C N (ks j)) (sts j) (emptyF fr lp sts) c0 k ∧ (∀ c' k', c' < c → Wy (fanF C N (ks j)) (sts j) (emptyF fr lp sts) c' k' → k' ≤ k) ∧ ∀ c', c' < c0 → ¬ Wy (fanF C N (ks j)) (sts j) (emptyF fr lp sts) c' k) N 0 (1, none)
    (Or.inl ⟨rfl, fun c' hc' => absurd hc' (Nat.not_lt_zero _)⟩) (fun c p _ _ hp => by
      by_cases hc : go.testBit c = true
      · obtain ⟨k, w1, w2, w3⟩ := hLc c hc
        have hk := hW1 c k w1
        unfold wyStep
        rw [if_pos hc, w2]
        rcases hp with ⟨rfl, h2⟩ | ⟨c0, k0, h1, rfl, h3, h4, h5⟩
        · rw [if_pos (by show 1 < 1 + k; omega)]
          refine Or.inr ⟨c, k, Nat.lt_succ_self _, rfl, w1, fun c' k' q1 q2 => ?_, fun c' q1 q2 => ?_⟩
          · by_cases e : c' = c
            · subst e; exact w3 k' q2
            · have := h2 c' (by omega)
              rw [(hW1 c' k' q2).1] at this; cases this
          · have := h2 c' q1
            rw [(hW1 c' k q2).1] at this; cases this
        · by_cases hlt : 1 + k0 < 1 + k
          · rw [if_pos hlt]
            refine Or.inr ⟨c, k, Nat.lt_succ_self _, rfl, w1, fun c' k' q1 q2 => ?_, fun c' q1 q2 => ?_⟩
            · by_cases e : c' = c
              · subst e; exact w3 k' q2
              · have := h4 c' k' (by omega) q2; omega
            · have := h4 c' k q1 q2; omega
          · rw [if_neg hlt]
            refine Or.inr ⟨c0, k0, by omega, rfl, h3, fun c' k' q1 q2 => ?_, h5⟩
            by_cases e : c' = c
            · subst e; have := w3 k' q2; omega
            · exact h4 c' k' (by omega) q2
      · have hcf : go.testBit c = false := by simpa using hc
        have e : wyStep go L c p = p := by unfold wyStep; rw [if_neg hc, if_neg (Nat.not_lt_zero _)]
        rw [e]
        rcases hp with ⟨h1, h2⟩ | ⟨c0, k0, h1, h2, h3, h4, h5⟩
        · refine Or.inl ⟨h1, fun c' hc' => ?_⟩
          by_cases e : c' = c
          · rw [e]; exact hcf
          · exact h2 c' (by omega)
        · refine Or.inr ⟨c0, k0, by omega, h2, h3, fun c' k' q1 q2 => ?_, h5⟩
          by_cases e : c' = c
          · subst e; exact absurd (hW1 c' k' q2).1 hc
          · exact h4 c' k' (by omega) q2)
  rw [Nat.zero_add] at h
  have hNall : ∀ c k, Wy (fanF C N (ks j)) (sts j) (emptyF fr lp sts) c k → c < N := fun c k hw => hroom c ((hgo c).mp (hW1 c k hw).1).2
  have hz : ∀ k, (∀ c, ¬ Wy (fanF C N (ks j)) (sts j) (emptyF fr lp sts) c k) → fi k = 0 := fun k hk => zero_of fun c hc => hk c ((hfi k c).mp hc)
  unfold wyF
  rcases h with ⟨h1, h2⟩ | ⟨c0, k, h1, h2, h3, h4, h5⟩
  · rw [h1]
    have hno : ∀ c k, ¬ Wy (fanF C N (ks j)) (sts j) (emptyF fr lp sts) c k := fun c k hw => by
      have := h2 c (hNall c k hw)
      rw [(hW1 c k hw).1] at this; cases this
    have hm : mbF fi 12 = 0 := by
      rcases mb_spec fi 12 with ⟨q, -⟩ | ⟨q1, -, q3, -⟩
      · exact q
      · exact absurd (hz _ (fun c => hno c _)) q3
    rw [hm, hz 0 (fun c => hno c _), nth_0]
    exact ⟨rfl, rfl⟩
  · rw [h2]
    have hk := hW1 c0 k h3
    have hne : fi k ≠ 0 := fun z => of_zero z c0 ((hfi k c0).mpr h3)
    have hm : mbF fi 12 = k := by
      rcases mb_spec fi 12 with ⟨q1, q2⟩ | ⟨q1, q2, q3, q4⟩
      · exact absurd (q2 k hk.2.1 hk.2.2) hne
      · obtain ⟨c, hc⟩ := Nat.exists_testBit_of_ne_zero q3
        have hw := (hfi _ c).mp hc
        have := h4 c _ (hNall c _ hw) hw
        rcases Nat.lt_or_ge (mbF fi 12) k with z | z
        · exact absurd (q4 k z hk.2.2) hne
        · omega
    rw [hm]
    refine ⟨rfl, ?_⟩
    have hb : fi k < 4096 := Nat.lt_pow_two_of_testBit (n := 12) _ fun i hi => by
      cases q : (fi k).testBit i with
      | false => rfl
      | true => have := hNall i k ((hfi k i).mp q); omega
    rw [(low_spec hb hne).1, low_is hb ((hfi k c0).mpr h3) (fun i hi hq => h5 i hi ((hfi k i).mp hq))]
