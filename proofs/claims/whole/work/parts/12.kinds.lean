/-! ===== sets of twelve ===== -/
theorem and_bL {a b : Nat} (h : a < 4096) : a &&& b < 4096 := Nat.lt_of_le_of_lt Nat.and_le_left h
theorem and_bR {a b : Nat} (h : b < 4096) : a &&& b < 4096 := Nat.lt_of_le_of_lt Nat.and_le_right h
theorem or_b {a b : Nat} (ha : a < 4096) (hb : b < 4096) : a ||| b < 4096 := Nat.or_lt_two_pow (n := 12) ha hb
theorem pw_b {i : Nat} (h : i < 12) : 2 ^ i < 4096 := (show 2 ^ i < 2 ^ 12 from Nat.pow_lt_pow_right (by decide) h)
theorem ad_b {a b : Nat} (h : a < 4096) : ad a b < 4096 := by
  refine Nat.lt_pow_two_of_testBit (n := 12) _ fun i hi => ?_
  rw [ad_tb, Nat.testBit_lt_two_pow (Nat.lt_of_lt_of_le h (show 2 ^ 12 ≤ 2 ^ _ from Nat.pow_le_pow_right (by decide) hi))]
  rfl
theorem tb_b {a i : Nat} (h : a < 4096) (hi : 12 ≤ i) : a.testBit i = false := Nat.testBit_lt_two_pow (Nat.lt_of_lt_of_le h (show 2 ^ 12 ≤ 2 ^ _ from Nat.pow_le_pow_right (by decide) hi))
def fold {α : Type} (step : Nat → α → α) : Nat → Nat → α → α
  | 0, _, x => x
  | k + 1, i, x => fold step k (i + 1) (step i x)
def sizeFrom (S : Nat) : Nat → Nat → Nat → Nat
  | 0, _, m => m
  | k + 1, i, m => sizeFrom S k (i + 1) (m + (S.testBit i).toNat)
def pop (S : Nat) : Nat := sizeFrom S 12 0 0
theorem sizeFrom_le (S : Nat) : ∀ (k i m : Nat), sizeFrom S k i m ≤ m + k := by
  intro k
  induction k with
  | zero => intro i m; exact Nat.le_refl _
  | succ k ih =>
    intro i m
    refine Nat.le_trans (ih (i + 1) _) ?_
    have : (S.testBit i).toNat ≤ 1 := Bool.toNat_le _
    omega
theorem pop_le (S : Nat) : pop S ≤ 12 := by
  have := sizeFrom_le S 12 0 0
  unfold pop
  omega
/-! the lowest of a set -/
theorem nthFrom0 (S : Nat) : ∀ (k i : Nat), (∃ j, nthFrom S 0 k i 0 = some j ∧ i ≤ j ∧ j < i + k ∧ S.testBit j = true ∧ ∀ t, i ≤ t → t < j → S.testBit t = false) ∨ (nthFrom S 0 k i 0 = none ∧ ∀ t, i ≤ t → t < i + k → S.testBit t = false) := by
  intro k
  induction k with
  | zero => intro i; exact Or.inr ⟨rfl, fun t h1 h2 => by omega⟩
  | succ k ih =>
    intro i
    by_cases h : S.testBit i = true
    · refine Or.inl ⟨i, by simp [nthFrom, h], Nat.le_refl _, by omega, h, fun t h1 h2 => by omega⟩
    · have hf : S.testBit i = false := by simpa using h
      rcases ih (i + 1) with ⟨j, h1, h2, h3, h4, h5⟩ | ⟨h1, h2⟩
      · refine Or.inl ⟨j, by simp only [nthFrom, hf]; exact h1, by omega, by omega, h4, fun t q1 q2 => ?_⟩
        by_cases ht : t = i
        · rw [ht]; exact hf
        · exact h5 t (by omega) q2
      · refine Or.inr ⟨by simp only [nthFrom, hf]; exact h1, fun t q1 q2 => ?_⟩
        by_cases ht : t = i
        · rw [ht]; exact hf
        · exact h2 t (by omega) (by omega)
def low (S : Nat) : Nat := (nth S 0).getD 0
theorem low_spec {S : Nat} (hS : S < 4096) (h0 : S ≠ 0) : nth S 0 = some (low S) ∧ low S < 12 ∧ S.testBit (low S) = true ∧ ∀ t, t < low S → S.testBit t = false := by
  rcases nthFrom0 S 12 0 with ⟨j, h1, h2, h3, h4, h5⟩ | ⟨h1, h2⟩
  · have e : nth S 0 = some j := h1
    have e2 : low S = j := by unfold low; rw [e]; rfl
    rw [e2]
    exact ⟨e, by omega, h4, fun t ht => h5 t (Nat.zero_le _) ht⟩
  · exfalso
    apply h0
    apply Nat.eq_of_testBit_eq
    intro i
    rw [Nat.zero_testBit]
    by_cases hi : i < 12
    · exact h2 i (Nat.zero_le _) (by omega)
    · exact tb_b hS (by omega)
theorem c_low {w : mW} (S : Nat) (hS : S < 4096) (h0 : S ≠ 0) : JR 2 mX5_lowestOf [.int (nI S)] w (.int (nI (low S))) w := by
  have h := c_lowestOf (w := w) S (by omega)
  rw [(low_spec hS h0).1] at h
  exact h
/-! Integer.bitCount -/
def bcS (x : Int32) (s : Nat) : Int32 := (x.toUInt32 >>> ((nI s).toUInt32 &&& Int32.toUInt32 31)).toInt32
def bc1 (x : Int32) : Int32 := x - (bcS x 1 &&& 1431655765)
def bc2 (x : Int32) : Int32 := (x &&& 858993459) + (bcS x 2 &&& 858993459)
def bc3 (x : Int32) : Int32 := (x + bcS x 4) &&& 252645135
def bc4 (x : Int32) : Int32 := x + bcS x 8
def bc5 (x : Int32) : Int32 := x + bcS x 16
set_option maxRecDepth 100000 in
theorem bc_ok : ∀ S : Fin 4096, bc5 (bc4 (bc3 (bc2 (bc1 (nI S.val))))) &&& nI 63 = nI (pop S.val) := by decide +kernel
theorem c_bitCount {w : mW} (S : Nat) (hS : S < 4096) : JR 0 mJ6_bitCount [.int (nI S)] w (.int (nI (pop S))) w := by
  refine j_start (ls := [.int (nI S)]) rfl ?_
  refine j_iload_n iJ6_bitCount_0 rfl ?_
  refine j_iload_n iJ6_bitCount_1 rfl ?_
  refine j_iconst (v := nI 1) iJ6_bitCount_2 (by decide) ?_
  refine j_iushr iJ6_bitCount_3 ?_
  refine j_ldcw iJ6_bitCount_4 kc_J6_265 ?_
  refine j_iand iJ6_bitCount_7 ?_
  refine j_isub iJ6_bitCount_8 ?_
  refine j_top (y := bc1 (nI S)) (by rfl) ?_
  refine j_istore_n iJ6_bitCount_9 (by decide) rfl ?_
  dsimp only [List.set]
  refine j_iload_n iJ6_bitCount_10 rfl ?_
  refine j_ldcw iJ6_bitCount_11 kc_J6_266 ?_
  refine j_iand iJ6_bitCount_14 ?_
  refine j_iload_n iJ6_bitCount_15 rfl ?_
  refine j_iconst (v := nI 2) iJ6_bitCount_16 (by decide) ?_
  refine j_iushr iJ6_bitCount_17 ?_
  refine j_ldcw iJ6_bitCount_18 kc_J6_266 ?_
  refine j_iand iJ6_bitCount_21 ?_
  refine j_iadd iJ6_bitCount_22 ?_
  refine j_top (y := bc2 (bc1 (nI S))) (by rfl) ?_
  refine j_istore_n iJ6_bitCount_23 (by decide) rfl ?_
  dsimp only [List.set]
  refine j_iload_n iJ6_bitCount_24 rfl ?_
  refine j_iload_n iJ6_bitCount_25 rfl ?_
  refine j_iconst (v := nI 4) iJ6_bitCount_26 (by decide) ?_
  refine j_iushr iJ6_bitCount_27 ?_
  refine j_iadd iJ6_bitCount_28 ?_
  refine j_ldcw iJ6_bitCount_29 kc_J6_267 ?_
  refine j_iand iJ6_bitCount_32 ?_
  refine j_top (y := bc3 (bc2 (bc1 (nI S)))) (by rfl) ?_
  refine j_istore_n iJ6_bitCount_33 (by decide) rfl ?_
  dsimp only [List.set]
  refine j_iload_n iJ6_bitCount_34 rfl ?_
  refine j_iload_n iJ6_bitCount_35 rfl ?_
  refine j_bipush (v := nI 8) iJ6_bitCount_36 (by decide) ?_
  refine j_iushr iJ6_bitCount_38 ?_
  refine j_iadd iJ6_bitCount_39 ?_
  refine j_top (y := bc4 (bc3 (bc2 (bc1 (nI S))))) (by rfl) ?_
  refine j_istore_n iJ6_bitCount_40 (by decide) rfl ?_
  dsimp only [List.set]
  refine j_iload_n iJ6_bitCount_41 rfl ?_
  refine j_iload_n iJ6_bitCount_42 rfl ?_
  refine j_bipush (v := nI 16) iJ6_bitCount_43 (by decide) ?_
  refine j_iushr iJ6_bitCount_45 ?_
  refine j_iadd iJ6_bitCount_46 ?_
  refine j_top (y := bc5 (bc4 (bc3 (bc2 (bc1 (nI S)))))) (by rfl) ?_
  refine j_istore_n iJ6_bitCount_47 (by decide) rfl ?_
  dsimp only [List.set]
  refine j_iload_n iJ6_bitCount_48 rfl ?_
  refine j_bipush (v := nI 63) iJ6_bitCount_49 (by decide) ?_
  refine j_iand iJ6_bitCount_51 ?_
  refine j_iret iJ6_bitCount_52 rfl (by first | rfl | exact nar_bI _ | exact nar_bP) (⟨congrArg (fun z => some (Value.int z)) (bc_ok ⟨S, hS⟩), rfl⟩)
theorem c_isLarger {w : mW} (S T : Nat) (hS : S < 4096) (hT : T < 4096) : JR 1 mX1_isLarger [.int (nI S), .int (nI T)] w (.int (bI (decide (pop T < pop S)))) w := by
  have h1 := pop_le S
  have h2 := pop_le T
  refine j_start (ls := [.int (nI S), .int (nI T)]) rfl ?_
  refine j_iload_n iX1_isLarger_0 rfl ?_
  refine j_S1R okJ6_bitCount lk_X1_65 iX1_isLarger_1 (by omega) (c_bitCount S hS) rfl (Nat.le_of_ble_eq_true rfl) (Nat.le_of_ble_eq_true rfl) ?_
  refine j_iload_n iX1_isLarger_4 rfl ?_
  refine j_S1R okJ6_bitCount lk_X1_65 iX1_isLarger_5 (by omega) (c_bitCount T hT) rfl (Nat.le_of_ble_eq_true rfl) (Nat.le_of_ble_eq_true rfl) ?_
  refine j_icmp_leN (tgt := 15) iX1_isLarger_8 (by decide) (by omega) (by omega) (fun h8 => ?_) (fun h8 => ?_)
  · refine j_iconst (v := nI 0) iX1_isLarger_15 (by decide) ?_
    refine j_iret iX1_isLarger_16 rfl (by first | rfl | exact nar_bI _ | exact nar_bP) (⟨by first | rw [decide_eq_false (by omega)]; rfl | rw [decide_eq_true h8]; rfl, rfl⟩)
  · refine j_iconst (v := nI 1) iX1_isLarger_11 (by decide) ?_
    refine j_goto (tgt := 16) iX1_isLarger_12 (by decide) ?_
    refine j_iret iX1_isLarger_16 rfl (by first | rfl | exact nar_bI _ | exact nar_bP) (⟨by first | rw [decide_eq_false (by omega)]; rfl | rw [decide_eq_true h8]; rfl, rfl⟩)
/-! kinds -/
theorem c_isOneOfTwo {w : mW} (x : Int32) : JR 0 mX5_isOneOfTwo [.int x] w (.int (bI (inR x 2))) w := by
  have e : inR x 2 = decide (x = 0 ∨ x = nI 1) := by
    by_cases h : inR x 2 = true
    · obtain ⟨j, hj, rfl⟩ := inR_ex (by decide) h
      rw [h]
      rcases (show j = 0 ∨ j = 1 by omega) with rfl | rfl <;> rfl
    · rw [Bool.not_eq_true] at h
      rw [h]
      symm
      rw [decide_eq_false_iff_not]
      rintro (rfl | rfl) <;> revert h <;> decide
  refine j_start (ls := [.int x]) rfl ?_
  refine j_iload_n iX5_isOneOfTwo_0 rfl ?_
  refine j_if_eq (tgt := 9) iX5_isOneOfTwo_1 (by decide) (fun h1 => ?_) (fun h1 => ?_)
  · refine j_iconst (v := nI 1) iX5_isOneOfTwo_9 (by decide) ?_
    refine j_goto (tgt := 14) iX5_isOneOfTwo_10 (by decide) ?_
    refine j_iret iX5_isOneOfTwo_14 rfl (by first | rfl | exact nar_bI _ | exact nar_bP) (⟨by first | (rw [e, decide_eq_true (Or.inl h1)]; rfl) | (rw [e, decide_eq_true (Or.inr h6)]; rfl) | (rw [e, decide_eq_false (fun q => q.elim h1 h6)]; rfl), rfl⟩)
  · refine j_iload_n iX5_isOneOfTwo_4 rfl ?_
    refine j_iconst (v := nI 1) iX5_isOneOfTwo_5 (by decide) ?_
    refine j_icmp_ne (tgt := 13) iX5_isOneOfTwo_6 (by decide) (fun h6 => ?_) (fun h6 => ?_)
    · refine j_iconst (v := nI 0) iX5_isOneOfTwo_13 (by decide) ?_
      refine j_iret iX5_isOneOfTwo_14 rfl (by first | rfl | exact nar_bI _ | exact nar_bP) (⟨by first | (rw [e, decide_eq_true (Or.inl h1)]; rfl) | (rw [e, decide_eq_true (Or.inr h6)]; rfl) | (rw [e, decide_eq_false (fun q => q.elim h1 h6)]; rfl), rfl⟩)
    · refine j_iconst (v := nI 1) iX5_isOneOfTwo_9 (by decide) ?_
      refine j_goto (tgt := 14) iX5_isOneOfTwo_10 (by decide) ?_
      refine j_iret iX5_isOneOfTwo_14 rfl (by first | rfl | exact nar_bI _ | exact nar_bP) (⟨by first | (rw [e, decide_eq_true (Or.inl h1)]; rfl) | (rw [e, decide_eq_true (Or.inr h6)]; rfl) | (rw [e, decide_eq_false (fun q => q.elim h1 h6)]; rfl), rfl⟩)
def goesF (k r c : Nat) : Bool :=
  match k with
  | 0 => decide (min r c = 1 ∧ max r c = 2)
  | 1 => decide (min r c = 0 ∧ max r c = 1)
  | 2 => decide (min r c = 1 ∧ max r c = 1)
  | 3 => decide (min r c = 1 ∧ max r c = 3)
  | 4 => decide (min r c = 1 ∧ max r c = 2) || decide (min r c = 0 ∧ max r c = 1)
  | _ => false
theorem c_goes {w : mW} (k r c : Nat) (hk : k < 5) (hr : r < 2 ^ 31) (hc : c < 2 ^ 31) : JR 1 mX5_goes [.int (nI k), .int (nI r), .int (nI c)] w (.int (bI (goesF k r c))) w := by
  have hmin : min r c < 2 ^ 31 := by omega
  have hmax : max r c < 2 ^ 31 := by omega
  have K2 : ∀ p q : Bool, p = decide (min r c = 1 ∧ max r c = 2) → q = decide (min r c = 0 ∧ max r c = 1) → J 1 mX5_goes 48 [.int (nI k), .int (nI r), .int (nI c), .int (nI (min r c)), .int (nI (max r c)), .int (bI p), .int (bI q)] [] w (fun v u => v = some (.int (bI (goesF k r c))) ∧ u = w) := by
    intro p q hp hq
    rcases (show k = 0 ∨ k = 1 ∨ k = 2 ∨ k = 3 ∨ k = 4 by omega) with rfl | rfl | rfl | rfl | rfl
    · refine j_iload_n iX5_goes_48 rfl ?_
      refine j_tswIn (off := 35) (tgt := 84) iX5_goes_49 (by decide) (by decide) (by decide) (by decide) ?_
      refine j_iload iX5_goes_84 rfl ?_
      refine j_iret iX5_goes_86 rfl (by first | rfl | exact nar_bI _ | exact nar_bP) (⟨by rw [hp]; rfl, rfl⟩)
    · refine j_iload_n iX5_goes_48 rfl ?_
      refine j_tswIn (off := 38) (tgt := 87) iX5_goes_49 (by decide) (by decide) (by decide) (by decide) ?_
      refine j_iload iX5_goes_87 rfl ?_
      refine j_iret iX5_goes_89 rfl (by first | rfl | exact nar_bI _ | exact nar_bP) (⟨by rw [hq]; rfl, rfl⟩)
    · refine j_iload_n iX5_goes_48 rfl ?_
      refine j_tswIn (off := 41) (tgt := 90) iX5_goes_49 (by decide) (by decide) (by decide) (by decide) ?_
      refine j_iload_n iX5_goes_90 rfl ?_
      refine j_iconst (v := nI 1) iX5_goes_91 (by decide) ?_
      refine j_icmp_neN (tgt := 105) iX5_goes_92 (by decide) (by omega) (by omega) (fun h92 => ?_) (fun h92 => ?_)
      · refine j_iconst (v := nI 0) iX5_goes_105 (by decide) ?_
        refine j_iret iX5_goes_106 rfl (by first | rfl | exact nar_bI _ | exact nar_bP) (⟨by simp only [goesF]; first | (rw [decide_eq_true ⟨h92, h98⟩]; rfl) | (rw [decide_eq_false (fun z => h92 z.1)]; rfl) | (rw [decide_eq_false (fun z => h98 z.2)]; rfl), rfl⟩)
      · refine j_iload iX5_goes_95 rfl ?_
        refine j_iconst (v := nI 1) iX5_goes_97 (by decide) ?_
        refine j_icmp_neN (tgt := 105) iX5_goes_98 (by decide) (by omega) (by omega) (fun h98 => ?_) (fun h98 => ?_)
        · refine j_iconst (v := nI 0) iX5_goes_105 (by decide) ?_
          refine j_iret iX5_goes_106 rfl (by first | rfl | exact nar_bI _ | exact nar_bP) (⟨by simp only [goesF]; first | (rw [decide_eq_true ⟨h92, h98⟩]; rfl) | (rw [decide_eq_false (fun z => h92 z.1)]; rfl) | (rw [decide_eq_false (fun z => h98 z.2)]; rfl), rfl⟩)
        · refine j_iconst (v := nI 1) iX5_goes_101 (by decide) ?_
          refine j_goto (tgt := 106) iX5_goes_102 (by decide) ?_
          refine j_iret iX5_goes_106 rfl (by first | rfl | exact nar_bI _ | exact nar_bP) (⟨by simp only [goesF]; first | (rw [decide_eq_true ⟨h92, h98⟩]; rfl) | (rw [decide_eq_false (fun z => h92 z.1)]; rfl) | (rw [decide_eq_false (fun z => h98 z.2)]; rfl), rfl⟩)
    · refine j_iload_n iX5_goes_48 rfl ?_
      refine j_tswIn (off := 58) (tgt := 107) iX5_goes_49 (by decide) (by decide) (by decide) (by decide) ?_
      refine j_iload_n iX5_goes_107 rfl ?_
      refine j_iconst (v := nI 1) iX5_goes_108 (by decide) ?_
      refine j_icmp_neN (tgt := 122) iX5_goes_109 (by decide) (by omega) (by omega) (fun h109 => ?_) (fun h109 => ?_)
      · refine j_iconst (v := nI 0) iX5_goes_122 (by decide) ?_
        refine j_iret iX5_goes_123 rfl (by first | rfl | exact nar_bI _ | exact nar_bP) (⟨by simp only [goesF]; first | (rw [decide_eq_true ⟨h109, h115⟩]; rfl) | (rw [decide_eq_false (fun z => h109 z.1)]; rfl) | (rw [decide_eq_false (fun z => h115 z.2)]; rfl), rfl⟩)
      · refine j_iload iX5_goes_112 rfl ?_
        refine j_iconst (v := nI 3) iX5_goes_114 (by decide) ?_
        refine j_icmp_neN (tgt := 122) iX5_goes_115 (by decide) (by omega) (by omega) (fun h115 => ?_) (fun h115 => ?_)
        · refine j_iconst (v := nI 0) iX5_goes_122 (by decide) ?_
          refine j_iret iX5_goes_123 rfl (by first | rfl | exact nar_bI _ | exact nar_bP) (⟨by simp only [goesF]; first | (rw [decide_eq_true ⟨h109, h115⟩]; rfl) | (rw [decide_eq_false (fun z => h109 z.1)]; rfl) | (rw [decide_eq_false (fun z => h115 z.2)]; rfl), rfl⟩)
        · refine j_iconst (v := nI 1) iX5_goes_118 (by decide) ?_
          refine j_goto (tgt := 123) iX5_goes_119 (by decide) ?_
          refine j_iret iX5_goes_123 rfl (by first | rfl | exact nar_bI _ | exact nar_bP) (⟨by simp only [goesF]; first | (rw [decide_eq_true ⟨h109, h115⟩]; rfl) | (rw [decide_eq_false (fun z => h109 z.1)]; rfl) | (rw [decide_eq_false (fun z => h115 z.2)]; rfl), rfl⟩)
    · refine j_iload_n iX5_goes_48 rfl ?_
      refine j_tswIn (off := 75) (tgt := 124) iX5_goes_49 (by decide) (by decide) (by decide) (by decide) ?_
      refine j_iload iX5_goes_124 rfl ?_
      refine j_if_neB (tgt := 134) iX5_goes_126 (by decide) (fun h126 => ?_) (fun h126 => ?_)
      · refine j_iconst (v := nI 1) iX5_goes_134 (by decide) ?_
        refine j_goto (tgt := 139) iX5_goes_135 (by decide) ?_
        refine j_iret iX5_goes_139 rfl (by first | rfl | exact nar_bI _ | exact nar_bP) (⟨by simp only [goesF]; rw [← hp, ← hq]; first | (rw [h126]; rfl) | (rw [h126, h131]; rfl), rfl⟩)
      · refine j_iload iX5_goes_129 rfl ?_
        refine j_if_eqB (tgt := 138) iX5_goes_131 (by decide) (fun h131 => ?_) (fun h131 => ?_)
        · refine j_iconst (v := nI 0) iX5_goes_138 (by decide) ?_
          refine j_iret iX5_goes_139 rfl (by first | rfl | exact nar_bI _ | exact nar_bP) (⟨by simp only [goesF]; rw [← hp, ← hq]; first | (rw [h126]; rfl) | (rw [h126, h131]; rfl), rfl⟩)
        · refine j_iconst (v := nI 1) iX5_goes_134 (by decide) ?_
          refine j_goto (tgt := 139) iX5_goes_135 (by decide) ?_
          refine j_iret iX5_goes_139 rfl (by first | rfl | exact nar_bI _ | exact nar_bP) (⟨by simp only [goesF]; rw [← hp, ← hq]; first | (rw [h126]; rfl) | (rw [h126, h131]; rfl), rfl⟩)
  have K1 : ∀ p : Bool, p = decide (min r c = 1 ∧ max r c = 2) → J 1 mX5_goes 29 [.int (nI k), .int (nI r), .int (nI c), .int (nI (min r c)), .int (nI (max r c)), .null, .null] [.int (bI p)] w (fun v u => v = some (.int (bI (goesF k r c))) ∧ u = w) := by
    intro p hp
    refine j_istore iX5_goes_29 (by decide) rfl ?_
    dsimp only [List.set]
    refine j_iload_n iX5_goes_31 rfl ?_
    refine j_if_neN (tgt := 45) iX5_goes_32 (by decide) (by omega) (fun h32 => ?_) (fun h32 => ?_)
    · refine j_iconst (v := nI 0) iX5_goes_45 (by decide) ?_
      refine j_istore iX5_goes_46 (by decide) rfl ?_
      dsimp only [List.set]
      first | exact K2 p true hp (by rw [decide_eq_true ⟨h32, h38⟩]) | exact K2 p false hp (by rw [decide_eq_false (fun z => h32 z.1)]) | exact K2 p false hp (by rw [decide_eq_false (fun z => h38 z.2)])
    · refine j_iload iX5_goes_35 rfl ?_
      refine j_iconst (v := nI 1) iX5_goes_37 (by decide) ?_
      refine j_icmp_neN (tgt := 45) iX5_goes_38 (by decide) (by omega) (by omega) (fun h38 => ?_) (fun h38 => ?_)
      · refine j_iconst (v := nI 0) iX5_goes_45 (by decide) ?_
        refine j_istore iX5_goes_46 (by decide) rfl ?_
        dsimp only [List.set]
        first | exact K2 p true hp (by rw [decide_eq_true ⟨h32, h38⟩]) | exact K2 p false hp (by rw [decide_eq_false (fun z => h32 z.1)]) | exact K2 p false hp (by rw [decide_eq_false (fun z => h38 z.2)])
      · refine j_iconst (v := nI 1) iX5_goes_41 (by decide) ?_
        refine j_goto (tgt := 46) iX5_goes_42 (by decide) ?_
        refine j_istore iX5_goes_46 (by decide) rfl ?_
        dsimp only [List.set]
        first | exact K2 p true hp (by rw [decide_eq_true ⟨h32, h38⟩]) | exact K2 p false hp (by rw [decide_eq_false (fun z => h32 z.1)]) | exact K2 p false hp (by rw [decide_eq_false (fun z => h38 z.2)])
  refine j_start (ls := [.int (nI k), .int (nI r), .int (nI c), .null, .null, .null, .null]) rfl ?_
  refine j_iload_n iX5_goes_0 rfl ?_
  refine j_iload_n iX5_goes_1 rfl ?_
  refine j_mminN mk_X5_289 iX5_goes_2 (by omega) (Nat.le_of_ble_eq_true rfl) (by omega) (by omega) ?_
  refine j_istore_n iX5_goes_5 (by decide) rfl ?_
  dsimp only [List.set]
  refine j_iload_n iX5_goes_6 rfl ?_
  refine j_iload_n iX5_goes_7 rfl ?_
  refine j_mmaxN mk_X5_294 iX5_goes_8 (by omega) (Nat.le_of_ble_eq_true rfl) (by omega) (by omega) ?_
  refine j_istore iX5_goes_11 (by decide) rfl ?_
  dsimp only [List.set]
  refine j_iload_n iX5_goes_13 rfl ?_
  refine j_iconst (v := nI 1) iX5_goes_14 (by decide) ?_
  refine j_icmp_neN (tgt := 28) iX5_goes_15 (by decide) (by omega) (by omega) (fun h15 => ?_) (fun h15 => ?_)
  · refine j_iconst (v := nI 0) iX5_goes_28 (by decide) ?_
    first | exact K1 true (by rw [decide_eq_true ⟨h15, h21⟩]) | exact K1 false (by rw [decide_eq_false (fun z => h15 z.1)]) | exact K1 false (by rw [decide_eq_false (fun z => h21 z.2)])
  · refine j_iload iX5_goes_18 rfl ?_
    refine j_iconst (v := nI 2) iX5_goes_20 (by decide) ?_
    refine j_icmp_neN (tgt := 28) iX5_goes_21 (by decide) (by omega) (by omega) (fun h21 => ?_) (fun h21 => ?_)
    · refine j_iconst (v := nI 0) iX5_goes_28 (by decide) ?_
      first | exact K1 true (by rw [decide_eq_true ⟨h15, h21⟩]) | exact K1 false (by rw [decide_eq_false (fun z => h15 z.1)]) | exact K1 false (by rw [decide_eq_false (fun z => h21 z.2)])
    · refine j_iconst (v := nI 1) iX5_goes_24 (by decide) ?_
      refine j_goto (tgt := 29) iX5_goes_25 (by decide) ?_
      first | exact K1 true (by rw [decide_eq_true ⟨h15, h21⟩]) | exact K1 false (by rw [decide_eq_false (fun z => h15 z.1)]) | exact K1 false (by rw [decide_eq_false (fun z => h21 z.2)])
def goersF (r c : Nat) : Nat := fold (fun k S => if goesF k r c = true then S ||| 2 ^ k else S) 5 0 0
theorem c_goers {w : mW} (r c : Nat) (hr : r < 2 ^ 31) (hc : c < 2 ^ 31) : JR 2 mX5_goers [.int (nI r), .int (nI c)] w (.int (nI (goersF r c))) w := by
  have L : ∀ (n k S : Nat), k + n = 5 → J 2 mX5_goers 4 [.int (nI r), .int (nI c), .int (nI S), .int (nI k)] [] w (fun v u => v = some (.int (nI (fold (fun k S => if goesF k r c = true then S ||| 2 ^ k else S) n k S))) ∧ u = w) := by
    intro n
    induction n with
    | zero =>
      intro k S hk
      refine j_iload_n iX5_goers_4 rfl ?_
      refine j_iconst (v := nI 5) iX5_goers_5 (by decide) ?_
      refine j_icmp_geN (tgt := 30) iX5_goers_6 (by decide) (by omega) (by omega) (fun _ => ?_) (fun hno => by exfalso; omega)
      refine j_iload_n iX5_goers_30 rfl ?_
      refine j_iret iX5_goers_31 rfl (by first | rfl | exact nar_bI _ | exact nar_bP) (⟨rfl, rfl⟩)
    | succ n ih =>
      intro k S hk
      refine j_iload_n iX5_goers_4 rfl ?_
      refine j_iconst (v := nI 5) iX5_goers_5 (by decide) ?_
      refine j_icmp_geN (tgt := 30) iX5_goers_6 (by decide) (by omega) (by omega) (fun hno => by exfalso; omega) (fun _ => ?_)
      refine j_iload_n iX5_goers_9 rfl ?_
      refine j_iload_n iX5_goers_10 rfl ?_
      refine j_iload_n iX5_goers_11 rfl ?_
      refine j_S3R okX5_goes lk_X5_297 iX5_goers_12 (by omega) (c_goes k r c (by omega) hr hc) rfl (Nat.le_of_ble_eq_true rfl) (Nat.le_of_ble_eq_true rfl) ?_
      refine j_if_eqB (tgt := 24) iX5_goers_15 (by decide) (fun h15 => ?_) (fun h15 => ?_)
      · refine j_iincN iX5_goers_24 rfl (by decide) rfl ?_
        dsimp only [List.set]
        refine j_goto (tgt := 4) iX5_goers_27 (by decide) ?_
        first | exact (by simpa only [fold, h15, if_true] using ih (k + 1) (S ||| 2 ^ k) (by omega)) | exact (by simpa [fold, h15] using ih (k + 1) S (by omega))
      · refine j_iload_n iX5_goers_18 rfl ?_
        refine j_iconst (v := nI 1) iX5_goers_19 (by decide) ?_
        refine j_iload_n iX5_goers_20 rfl ?_
        refine j_ishlN iX5_goers_21 (by omega) ?_
        refine j_iorN iX5_goers_22  ?_
        refine j_istore_n iX5_goers_23 (by decide) rfl ?_
        dsimp only [List.set]
        refine j_iincN iX5_goers_24 rfl (by decide) rfl ?_
        dsimp only [List.set]
        refine j_goto (tgt := 4) iX5_goers_27 (by decide) ?_
        first | exact (by simpa only [fold, h15, if_true] using ih (k + 1) (S ||| 2 ^ k) (by omega)) | exact (by simpa [fold, h15] using ih (k + 1) S (by omega))
  refine j_start (ls := [.int (nI r), .int (nI c), .null, .null]) rfl ?_
  refine j_iconst (v := nI 0) iX5_goers_0 (by decide) ?_
  refine j_istore_n iX5_goers_1 (by decide) rfl ?_
  dsimp only [List.set]
  refine j_iconst (v := nI 0) iX5_goers_2 (by decide) ?_
  refine j_istore_n iX5_goers_3 (by decide) rfl ?_
  dsimp only [List.set]
  exact L 5 0 0 rfl
def askStep (S r c : Nat) (bf : Option Nat × Nat) : Option Nat × Nat :=
  if max (pop (S &&& goersF r c)) (pop S - pop (S &&& goersF r c)) < bf.2 then (some (10 * r + c), max (pop (S &&& goersF r c)) (pop S - pop (S &&& goersF r c))) else bf
def askAll (S : Nat) : Option Nat × Nat := fold (fun r bf => fold (fun c bf => askStep S r c bf) 4 0 bf) 4 0 (none, 6)
def askF (S : Nat) : Option Nat := if S = 0 then none else (askAll S).1
theorem ask_pop : ∀ S : Fin 32, ∀ r : Fin 4, ∀ c : Fin 4, pop (S.val &&& goersF r.val c.val) ≤ pop S.val ∧ goersF r.val c.val < 32 := by decide +kernel
theorem c_bestAsk {w : mW} (S : Nat) (hS : S < 32) : JR 3 mX5_bestAsk [.int (nI S)] w (.int (oN (askF S))) w := by
  have hp := pop_le S
  have LC : ∀ (r : Nat) (o : Option Nat) (fw : Nat), r < 4 → fw ≤ 12 → ∀ (n c : Nat) (bf : Option Nat × Nat), c + n = 4 → bf.2 ≤ 12 →
      (∀ bf' : Option Nat × Nat, bf'.2 ≤ 12 → bf' = fold (fun c bf => askStep S r c bf) n c bf → ∀ ls, ls = [.int (nI S), .int (oN bf'.1), .int (nI bf'.2), .int (nI (r + 1)), .null, .null, .null] → J 3 mX5_bestAsk 13 ls [] w (fun v u => v = some (.int (oN (askAll S).1)) ∧ u = w)) →
      J 3 mX5_bestAsk 21 [.int (nI S), .int (oN bf.1), .int (nI bf.2), .int (nI r), .int (nI c), .null, .null] [] w (fun v u => v = some (.int (oN (askAll S).1)) ∧ u = w) := by
    intro r o fw hr hfw n
    induction n with
    | zero =>
      intro c bf hc hb kk
      refine j_iload iX5_bestAsk_21 rfl ?_
      refine j_iconst (v := nI 3) iX5_bestAsk_23 (by decide) ?_
      refine j_icmp_gtN (tgt := 77) iX5_bestAsk_24 (by decide) (by omega) (by omega) (fun _ => ?_) (fun hno => by exfalso; omega)
      refine j_iincN iX5_bestAsk_77 rfl (by decide) rfl ?_
      dsimp only [List.set]
      refine j_goto (tgt := 13) iX5_bestAsk_80 (by decide) ?_
      exact J.forget (kk bf hb rfl _ rfl) (by intro i v h1 h2; rcases i with _ | _ | _ | _ | _ | _ | _ | i <;> simp_all)
    | succ n ih =>
      intro c bf hc hb kk
      have hq := ask_pop ⟨S, hS⟩ ⟨r, hr⟩ ⟨c, by omega⟩
      have hq1 : pop (S &&& goersF r c) ≤ pop S := hq.1
      have hq3 : S &&& goersF r c < 4096 := and_bL (by omega)
      refine j_iload iX5_bestAsk_21 rfl ?_
      refine j_iconst (v := nI 3) iX5_bestAsk_23 (by decide) ?_
      refine j_icmp_gtN (tgt := 77) iX5_bestAsk_24 (by decide) (by omega) (by omega) (fun hno => by exfalso; omega) (fun _ => ?_)
      refine j_iload_n iX5_bestAsk_27 rfl ?_
      refine j_iload_n iX5_bestAsk_28 rfl ?_
      refine j_iload iX5_bestAsk_29 rfl ?_
      refine j_S2R okX5_goers lk_X5_209 iX5_bestAsk_31 (by omega) (c_goers r c (by omega) (by omega)) rfl (Nat.le_of_ble_eq_true rfl) (Nat.le_of_ble_eq_true rfl) ?_
      refine j_iandN iX5_bestAsk_34 ?_
      refine j_S1R okJ6_bitCount lk_X5_168 iX5_bestAsk_35 (by omega) (c_bitCount _ hq3) rfl (Nat.le_of_ble_eq_true rfl) (Nat.le_of_ble_eq_true rfl) ?_
      refine j_istore iX5_bestAsk_38 (by decide) rfl ?_
      dsimp only [List.set]
      refine j_iload iX5_bestAsk_40 rfl ?_
      refine j_iload_n iX5_bestAsk_42 rfl ?_
      refine j_S1R okJ6_bitCount lk_X5_168 iX5_bestAsk_43 (by omega) (c_bitCount S (by omega)) rfl (Nat.le_of_ble_eq_true rfl) (Nat.le_of_ble_eq_true rfl) ?_
      refine j_iload iX5_bestAsk_46 rfl ?_
      refine j_isubN iX5_bestAsk_48 (by omega) ?_
      refine j_mmaxN mk_X5_294 iX5_bestAsk_49 (by omega) (Nat.le_of_ble_eq_true rfl) (by omega) (by omega) ?_
      refine j_istore iX5_bestAsk_52 (by decide) rfl ?_
      dsimp only [List.set]
      refine j_iload iX5_bestAsk_54 rfl ?_
      refine j_iload_n iX5_bestAsk_56 rfl ?_
      refine j_icmp_geN (tgt := 71) iX5_bestAsk_57 (by decide) (by omega) (by omega) (fun h57 => ?_) (fun h57 => ?_)
      · refine j_iincN iX5_bestAsk_71 rfl (by decide) rfl ?_
        dsimp only [List.set]
        refine j_goto (tgt := 21) iX5_bestAsk_74 (by decide) ?_
        first | exact J.forget (ih (c + 1) bf (by omega) hb (by simpa only [fold, askStep, if_neg (Nat.not_lt.mpr h57)] using kk)) (by intro i v h1 h2; rcases i with _ | _ | _ | _ | _ | _ | _ | i <;> simp_all) | exact J.forget (ih (c + 1) (some (10 * r + c), max (pop (S &&& goersF r c)) (pop S - pop (S &&& goersF r c))) (by omega) (by simp only; omega) (by simpa only [fold, askStep, if_pos h57] using kk)) (by intro i v h1 h2; rcases i with _ | _ | _ | _ | _ | _ | _ | i <;> simp_all [oN])
      · refine j_iload iX5_bestAsk_60 rfl ?_
        refine j_istore_n iX5_bestAsk_62 (by decide) rfl ?_
        dsimp only [List.set]
        refine j_bipush (v := nI 10) iX5_bestAsk_63 (by decide) ?_
        refine j_iload_n iX5_bestAsk_65 rfl ?_
        refine j_imulN iX5_bestAsk_66  ?_
        refine j_iload iX5_bestAsk_67 rfl ?_
        refine j_iaddN iX5_bestAsk_69  ?_
        refine j_istore_n iX5_bestAsk_70 (by decide) rfl ?_
        dsimp only [List.set]
        refine j_iincN iX5_bestAsk_71 rfl (by decide) rfl ?_
        dsimp only [List.set]
        refine j_goto (tgt := 21) iX5_bestAsk_74 (by decide) ?_
        first | exact J.forget (ih (c + 1) bf (by omega) hb (by simpa only [fold, askStep, if_neg (Nat.not_lt.mpr h57)] using kk)) (by intro i v h1 h2; rcases i with _ | _ | _ | _ | _ | _ | _ | i <;> simp_all) | exact J.forget (ih (c + 1) (some (10 * r + c), max (pop (S &&& goersF r c)) (pop S - pop (S &&& goersF r c))) (by omega) (by simp only; omega) (by simpa only [fold, askStep, if_pos h57] using kk)) (by intro i v h1 h2; rcases i with _ | _ | _ | _ | _ | _ | _ | i <;> simp_all [oN])
  have LR : ∀ (n r : Nat) (bf : Option Nat × Nat), r + n = 4 → bf.2 ≤ 12 → askAll S = fold (fun r bf => fold (fun c bf => askStep S r c bf) 4 0 bf) n r bf →
      J 3 mX5_bestAsk 13 [.int (nI S), .int (oN bf.1), .int (nI bf.2), .int (nI r), .null, .null, .null] [] w (fun v u => v = some (.int (oN (askAll S).1)) ∧ u = w) := by
    intro n
    induction n with
    | zero =>
      intro r bf hr hb he
      refine j_iload_n iX5_bestAsk_13 rfl ?_
      refine j_iconst (v := nI 3) iX5_bestAsk_14 (by decide) ?_
      refine j_icmp_gtN (tgt := 83) iX5_bestAsk_15 (by decide) (by omega) (by omega) (fun _ => ?_) (fun hno => by exfalso; omega)
      refine j_iload_n iX5_bestAsk_83 rfl ?_
      refine j_iret iX5_bestAsk_84 rfl (by first | rfl | exact nar_bI _ | exact nar_bP) (⟨by rw [he]; rfl, rfl⟩)
    | succ n ih =>
      intro r bf hr hb he
      refine j_iload_n iX5_bestAsk_13 rfl ?_
      refine j_iconst (v := nI 3) iX5_bestAsk_14 (by decide) ?_
      refine j_icmp_gtN (tgt := 83) iX5_bestAsk_15 (by decide) (by omega) (by omega) (fun hno => by exfalso; omega) (fun _ => ?_)
      refine j_iconst (v := nI 0) iX5_bestAsk_18 (by decide) ?_
      refine j_istore iX5_bestAsk_19 (by decide) rfl ?_
      dsimp only [List.set]
      exact LC r none 0 (by omega) (by omega) 4 0 bf rfl hb (fun bf' h1 h2 ls hls => by subst hls; exact ih (r + 1) bf' (by omega) h1 (by rw [he]; simp only [fold, h2]))
  refine j_start (ls := [.int (nI S), .null, .null, .null, .null, .null, .null]) rfl ?_
  refine j_iconst (v := (-1)) iX5_bestAsk_0 (by decide) ?_
  refine j_istore_n iX5_bestAsk_1 (by decide) rfl ?_
  dsimp only [List.set]
  refine j_iload_n iX5_bestAsk_2 rfl ?_
  refine j_if_neN (tgt := 8) iX5_bestAsk_3 (by decide) (by omega) (fun h3 => ?_) (fun h3 => ?_)
  · refine j_bipush (v := nI 6) iX5_bestAsk_8 (by decide) ?_
    refine j_istore_n iX5_bestAsk_10 (by decide) rfl ?_
    dsimp only [List.set]
    refine j_iconst (v := nI 0) iX5_bestAsk_11 (by decide) ?_
    refine j_istore_n iX5_bestAsk_12 (by decide) rfl ?_
    dsimp only [List.set]
    exact (by unfold askF; rw [if_neg h3]; exact LR 4 0 (none, 6) rfl (by decide) rfl)
  · refine j_iload_n iX5_bestAsk_6 rfl ?_
    refine j_iret iX5_bestAsk_7 rfl (by first | rfl | exact nar_bI _ | exact nar_bP) (⟨by unfold askF; rw [if_pos h3]; rfl, rfl⟩)
