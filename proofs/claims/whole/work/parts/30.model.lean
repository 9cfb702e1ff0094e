/-! ===== the reference: reads ===== -/
abbrev oM (bd R C fr lp lps sn sz : Nat) (wh : Bool) (nc nf nl tl : Nat) (sd : Int64) (ik : Bool) (kb kf kl kn : Nat) (hh : Int64) : mE := .inr (6, [.int (nI bd), .int (nI R), .int (nI C), .int (nI fr), .int (nI lp), .ref 34, .ref 35, .int (nI lps), .int (nI sn), .ref 36, .ref 37, .ref 38, .ref 39, .int (nI sz), .ref 40, .int (bI wh), .int (nI nc), .int (nI nf), .int (nI nl), .ref 41, .ref 42, .int (nI tl), .ref 43, .ref 44, .ref 45, .long sd, .ref 46, .int (bI ik), .int (nI kb), .int (nI kf), .int (nI kl), .int (nI kn), .ref 47, .ref 48, .ref 49, .ref 50, .ref 51, .ref 52, .long hh])
def wi (v lo hi : Int32) : Bool := decide (¬ v < lo ∧ ¬ hi < v)
theorem wi_N {v a b : Nat} (hv : v < 2 ^ 31) (ha : a < 2 ^ 31) (hb : b < 2 ^ 31) : wi (nI v) (nI a) (nI b) = decide (a ≤ v ∧ v ≤ b) := by
  unfold wi
  apply decide_eq_decide.mpr
  rw [nI_ltI hv ha, nI_ltI hb hv]
  omega
theorem wi_h {x : Int32} {n : Nat} (hn : n < 2 ^ 31) : wi x (nI 0) (hI n) = inR x n := by
  unfold wi inR
  apply decide_eq_decide.mpr
  rw [show (nI 0 : Int32) = 0 from rfl]
  constructor
  · rintro ⟨h1, h2⟩
    refine ⟨h1, ?_⟩
    obtain ⟨j, hj, rfl⟩ := nI_of h1
    cases n with
    | zero => exact absurd (by rw [hI_0]; exact Int32.lt_of_lt_of_le (b := 0) (by decide) (nI_pos' hj)) h2
    | succ n =>
      rw [hI_s] at h2
      exact (nI_ltI hj hn).mpr (by have := Nat.not_lt.mp (fun z => h2 ((nI_ltI (by omega) hj).mpr z)); omega)
  · rintro ⟨h1, h2⟩
    refine ⟨h1, fun h3 => ?_⟩
    obtain ⟨j, hj, rfl⟩ := nI_of h1
    have h4 := (nI_ltI hj hn).mp h2
    cases n with
    | zero => omega
    | succ n =>
      rw [hI_s] at h3
      have := (nI_ltI (by omega) hj).mp h3
      omega
theorem wi_R {x : Int32} {n : Nat} (hn : n + 1 < 2 ^ 31) : wi x (nI 0) (nI n) = inR x (n + 1) := by
  rw [← wi_h hn, hI_s]
section
variable {w : mW}
theorem m_within (v lo hi : Int32) : JR 0 mX6_within [.int v, .int lo, .int hi] w (.int (bI (wi v lo hi))) w := by
  refine j_start (ls := [.int v, .int lo, .int hi]) rfl ?_
  refine j_iload_n iX6_within_0 rfl ?_
  refine j_iload_n iX6_within_1 rfl ?_
  refine j_icmp_lt (tgt := 14) iX6_within_2 (by decide) (fun h2 => ?_) (fun h2 => ?_)
  · refine j_iconst (v := nI 0) iX6_within_14 (by decide) ?_
    refine j_iret iX6_within_15 rfl (by first | rfl | exact nar_bI _ | exact nar_bP) (⟨by unfold wi; first | (rw [decide_eq_true (And.intro h2 h7)]; rfl) | (rw [decide_eq_false (fun z : ¬ v < lo ∧ ¬ hi < v => z.2 h7)]; rfl) | (rw [decide_eq_false (fun z : ¬ v < lo ∧ ¬ hi < v => z.1 h2)]; rfl), rfl⟩)
  · refine j_iload_n iX6_within_5 rfl ?_
    refine j_iload_n iX6_within_6 rfl ?_
    refine j_icmp_gt (tgt := 14) iX6_within_7 (by decide) (fun h7 => ?_) (fun h7 => ?_)
    · refine j_iconst (v := nI 0) iX6_within_14 (by decide) ?_
      refine j_iret iX6_within_15 rfl (by first | rfl | exact nar_bI _ | exact nar_bP) (⟨by unfold wi; first | (rw [decide_eq_true (And.intro h2 h7)]; rfl) | (rw [decide_eq_false (fun z : ¬ v < lo ∧ ¬ hi < v => z.2 h7)]; rfl) | (rw [decide_eq_false (fun z : ¬ v < lo ∧ ¬ hi < v => z.1 h2)]; rfl), rfl⟩)
    · refine j_iconst (v := nI 1) iX6_within_10 (by decide) ?_
      refine j_goto (tgt := 15) iX6_within_11 (by decide) ?_
      refine j_iret iX6_within_15 rfl (by first | rfl | exact nar_bI _ | exact nar_bP) (⟨by unfold wi; first | (rw [decide_eq_true (And.intro h2 h7)]; rfl) | (rw [decide_eq_false (fun z : ¬ v < lo ∧ ¬ hi < v => z.2 h7)]; rfl) | (rw [decide_eq_false (fun z : ¬ v < lo ∧ ¬ hi < v => z.1 h2)]; rfl), rfl⟩)
theorem m_isIn (S c : Nat) (hS : S < 2 ^ 31) (hc : c < 32) : JR 0 mX6_isIn [.int (nI S), .int (nI c)] w (.int (bI (S.testBit c))) w := by
  refine j_start (ls := [.int (nI S), .int (nI c)]) rfl ?_
  refine j_iload_n iX6_isIn_0 rfl ?_
  refine j_iload_n iX6_isIn_1 rfl ?_
  refine j_ishrN iX6_isIn_2 (by omega) (by omega) ?_
  refine j_iconst (v := nI 1) iX6_isIn_3 (by decide) ?_
  refine j_iandBit iX6_isIn_4 ?_
  refine j_iconst (v := nI 1) iX6_isIn_5 (by decide) ?_
  refine j_icmp_neT (tgt := 13) iX6_isIn_6 (by decide) (fun h6 => ?_) (fun h6 => ?_)
  · refine j_iconst (v := nI 0) iX6_isIn_13 (by decide) ?_
    refine j_iret iX6_isIn_14 rfl (by first | rfl | exact nar_bI _ | exact nar_bP) (⟨by rw [h6]; rfl, rfl⟩)
  · refine j_iconst (v := nI 1) iX6_isIn_9 (by decide) ?_
    refine j_goto (tgt := 14) iX6_isIn_10 (by decide) ?_
    refine j_iret iX6_isIn_14 rfl (by first | rfl | exact nar_bI _ | exact nar_bP) (⟨by rw [h6]; rfl, rfl⟩)
theorem m_size (S : Nat) (hS : S < 2 ^ 31) : JR 0 mX6_size [.int (nI S)] w (.int (nI (pop S))) w := by
  have L : ∀ (n i m : Nat), i + n = 12 → J 0 mX6_size 4 [.int (nI S), .int (nI m), .int (nI i)] [] w (fun v u => v = some (.int (nI (sizeFrom S n i m))) ∧ u = w) := by
    intro n
    induction n with
    | zero =>
      intro i m hi
      refine j_iload_n iX6_size_4 rfl ?_
      refine j_bipush (v := nI 12) iX6_size_5 (by decide) ?_
      refine j_icmp_geN (tgt := 24) iX6_size_7 (by decide) (by omega) (by omega) (fun _ => ?_) (fun hno => by exfalso; omega)
      refine j_iload_n iX6_size_24 rfl ?_
      refine j_iret iX6_size_25 rfl (by first | rfl | exact nar_bI _ | exact nar_bP) (⟨rfl, rfl⟩)
    | succ n ih =>
      intro i m hi
      refine j_iload_n iX6_size_4 rfl ?_
      refine j_bipush (v := nI 12) iX6_size_5 (by decide) ?_
      refine j_icmp_geN (tgt := 24) iX6_size_7 (by decide) (by omega) (by omega) (fun hno => by exfalso; omega) (fun _ => ?_)
      refine j_iload_n iX6_size_10 rfl ?_
      refine j_iload_n iX6_size_11 rfl ?_
      refine j_iload_n iX6_size_12 rfl ?_
      refine j_ishrN iX6_size_13 (by omega) (by omega) ?_
      refine j_iconst (v := nI 1) iX6_size_14 (by decide) ?_
      refine j_iandBit iX6_size_15 ?_
      refine j_iaddN iX6_size_16  ?_
      refine j_istore_n iX6_size_17 (by decide) rfl ?_
      dsimp only [List.set]
      refine j_iincN iX6_size_18 rfl (by decide) rfl ?_
      dsimp only [List.set]
      refine j_goto (tgt := 4) iX6_size_21 (by decide) ?_
      exact ih (i + 1) _ (by omega)
  refine j_start (ls := [.int (nI S), .null, .null]) rfl ?_
  refine j_iconst (v := nI 0) iX6_size_0 (by decide) ?_
  refine j_istore_n iX6_size_1 (by decide) rfl ?_
  dsimp only [List.set]
  refine j_iconst (v := nI 0) iX6_size_2 (by decide) ?_
  refine j_istore_n iX6_size_3 (by decide) rfl ?_
  dsimp only [List.set]
  exact L 12 0 0 rfl
theorem kx_cases (c : Nat) : (c = 107 ∧ kindIx c = some 0) ∨ (c = 119 ∧ kindIx c = some 1) ∨ (c = 102 ∧ kindIx c = some 2) ∨ (c = 99 ∧ kindIx c = some 3) ∨ (c = 98 ∧ kindIx c = some 4) ∨ (c ≠ 107 ∧ c ≠ 119 ∧ c ≠ 102 ∧ c ≠ 99 ∧ c ≠ 98 ∧ kindIx c = none) := by
  by_cases h0 : c = 107
  · exact Or.inl ⟨h0, by subst h0; decide⟩
  by_cases h1 : c = 119
  · exact Or.inr (Or.inl ⟨h1, by subst h1; decide⟩)
  by_cases h2 : c = 102
  · exact Or.inr (Or.inr (Or.inl ⟨h2, by subst h2; decide⟩))
  by_cases h3 : c = 99
  · exact Or.inr (Or.inr (Or.inr (Or.inl ⟨h3, by subst h3; decide⟩)))
  by_cases h4 : c = 98
  · exact Or.inr (Or.inr (Or.inr (Or.inr (Or.inl ⟨h4, by subst h4; decide⟩))))
  · refine Or.inr (Or.inr (Or.inr (Or.inr (Or.inr ⟨h0, h1, h2, h3, h4, ?_⟩))))
    unfold kindIx kxFrom
    rw [if_neg (fun e => h0 e.symm)]
    unfold kxFrom
    rw [if_neg (fun e => h1 e.symm)]
    unfold kxFrom
    rw [if_neg (fun e => h2 e.symm)]
    unfold kxFrom
    rw [if_neg (fun e => h3 e.symm)]
    unfold kxFrom
    rw [if_neg (fun e => h4 e.symm)]
    rfl
theorem m_kindBy (c : Nat) (hc : c < 127) : JR 0 mX6_kindBy [.int (nI c)] w (.int (oN (kindIx c))) w := by
  refine j_start (ls := [.int (nI c)]) rfl ?_
  rcases kx_cases c with ⟨rfl, h⟩ | ⟨rfl, h⟩ | ⟨rfl, h⟩ | ⟨rfl, h⟩ | ⟨rfl, h⟩ | ⟨h0, h1, h2, h3, h4, h⟩ <;> rw [h]
  · refine j_iload_n iX6_kindBy_0 rfl ?_
    refine j_lsw (off := 51) (tgt := 52) iX6_kindBy_1 (by decide) (by decide) (by decide) ?_
    refine j_iconst (v := nI 0) iX6_kindBy_52 (by decide) ?_
    refine j_iret iX6_kindBy_53 rfl (by first | rfl | exact nar_bI _ | exact nar_bP) (⟨rfl, rfl⟩)
  · refine j_iload_n iX6_kindBy_0 rfl ?_
    refine j_lsw (off := 53) (tgt := 54) iX6_kindBy_1 (by decide) (by decide) (by decide) ?_
    refine j_iconst (v := nI 1) iX6_kindBy_54 (by decide) ?_
    refine j_iret iX6_kindBy_55 rfl (by first | rfl | exact nar_bI _ | exact nar_bP) (⟨rfl, rfl⟩)
  · refine j_iload_n iX6_kindBy_0 rfl ?_
    refine j_lsw (off := 55) (tgt := 56) iX6_kindBy_1 (by decide) (by decide) (by decide) ?_
    refine j_iconst (v := nI 2) iX6_kindBy_56 (by decide) ?_
    refine j_iret iX6_kindBy_57 rfl (by first | rfl | exact nar_bI _ | exact nar_bP) (⟨rfl, rfl⟩)
  · refine j_iload_n iX6_kindBy_0 rfl ?_
    refine j_lsw (off := 57) (tgt := 58) iX6_kindBy_1 (by decide) (by decide) (by decide) ?_
    refine j_iconst (v := nI 3) iX6_kindBy_58 (by decide) ?_
    refine j_iret iX6_kindBy_59 rfl (by first | rfl | exact nar_bI _ | exact nar_bP) (⟨rfl, rfl⟩)
  · refine j_iload_n iX6_kindBy_0 rfl ?_
    refine j_lsw (off := 59) (tgt := 60) iX6_kindBy_1 (by decide) (by decide) (by decide) ?_
    refine j_iconst (v := nI 4) iX6_kindBy_60 (by decide) ?_
    refine j_iret iX6_kindBy_61 rfl (by first | rfl | exact nar_bI _ | exact nar_bP) (⟨rfl, rfl⟩)
  · have e : (nI c).toInt = (c : Int) := nI_toInt (by omega)
    refine j_iload_n iX6_kindBy_0 rfl ?_
    refine j_lsw (off := 61) (tgt := 62) iX6_kindBy_1 (by decide) (by rw [e]; simp only [Op.lookupswitch.offset]; repeat (rw [if_neg (by omega)])) (by decide) ?_
    refine j_iconst (v := (-1)) iX6_kindBy_62 (by decide) ?_
    refine j_iret iX6_kindBy_63 rfl (by first | rfl | exact nar_bI _ | exact nar_bP) (⟨rfl, rfl⟩)
theorem goes_by (r c a b : Nat) (hab : a ≤ b) : (r = a ∧ c = b ∨ r = b ∧ c = a) ↔ (min r c = a ∧ max r c = b) := by omega
theorem goes_12 (r c : Nat) : decide (min r c = 1 ∧ max r c = 2) = decide (r = 1 ∧ c = 2 ∨ r = 2 ∧ c = 1) := decide_eq_decide.mpr (by omega)
theorem goes_01 (r c : Nat) : decide (min r c = 0 ∧ max r c = 1) = decide (r = 1 ∧ c = 0 ∨ r = 0 ∧ c = 1) := decide_eq_decide.mpr (by omega)
theorem m_isBy (r c a b : Nat) (hr : r < 2 ^ 31) (hc : c < 2 ^ 31) (ha : a < 2 ^ 31) (hb : b < 2 ^ 31) : JR 0 mX6_isBy [.int (nI r), .int (nI c), .int (nI a), .int (nI b)] w (.int (bI (decide (r = a ∧ c = b ∨ r = b ∧ c = a)))) w := by
  refine j_start (ls := [.int (nI r), .int (nI c), .int (nI a), .int (nI b)]) rfl ?_
  refine j_iload_n iX6_isBy_0 rfl ?_
  refine j_iload_n iX6_isBy_1 rfl ?_
  refine j_icmp_neN (tgt := 10) iX6_isBy_2 (by decide) (by omega) (by omega) (fun h2 => ?_) (fun h2 => ?_)
  · refine j_iload_n iX6_isBy_10 rfl ?_
    refine j_iload_n iX6_isBy_11 rfl ?_
    refine j_icmp_neN (tgt := 24) iX6_isBy_12 (by decide) (by omega) (by omega) (fun h12 => ?_) (fun h12 => ?_)
    · refine j_iconst (v := nI 0) iX6_isBy_24 (by decide) ?_
      refine j_iret iX6_isBy_25 rfl (by first | rfl | exact nar_bI _ | exact nar_bP) (⟨by first | (rw [decide_eq_true (by omega)]; rfl) | (rw [decide_eq_false (by omega)]; rfl), rfl⟩)
    · refine j_iload_n iX6_isBy_15 rfl ?_
      refine j_iload_n iX6_isBy_16 rfl ?_
      refine j_icmp_neN (tgt := 24) iX6_isBy_17 (by decide) (by omega) (by omega) (fun h17 => ?_) (fun h17 => ?_)
      · refine j_iconst (v := nI 0) iX6_isBy_24 (by decide) ?_
        refine j_iret iX6_isBy_25 rfl (by first | rfl | exact nar_bI _ | exact nar_bP) (⟨by first | (rw [decide_eq_true (by omega)]; rfl) | (rw [decide_eq_false (by omega)]; rfl), rfl⟩)
      · refine j_iconst (v := nI 1) iX6_isBy_20 (by decide) ?_
        refine j_goto (tgt := 25) iX6_isBy_21 (by decide) ?_
        refine j_iret iX6_isBy_25 rfl (by first | rfl | exact nar_bI _ | exact nar_bP) (⟨by first | (rw [decide_eq_true (by omega)]; rfl) | (rw [decide_eq_false (by omega)]; rfl), rfl⟩)
  · refine j_iload_n iX6_isBy_5 rfl ?_
    refine j_iload_n iX6_isBy_6 rfl ?_
    refine j_icmp_eqN (tgt := 20) iX6_isBy_7 (by decide) (by omega) (by omega) (fun h7 => ?_) (fun h7 => ?_)
    · refine j_iconst (v := nI 1) iX6_isBy_20 (by decide) ?_
      refine j_goto (tgt := 25) iX6_isBy_21 (by decide) ?_
      refine j_iret iX6_isBy_25 rfl (by first | rfl | exact nar_bI _ | exact nar_bP) (⟨by first | (rw [decide_eq_true (by omega)]; rfl) | (rw [decide_eq_false (by omega)]; rfl), rfl⟩)
    · refine j_iload_n iX6_isBy_10 rfl ?_
      refine j_iload_n iX6_isBy_11 rfl ?_
      refine j_icmp_neN (tgt := 24) iX6_isBy_12 (by decide) (by omega) (by omega) (fun h12 => ?_) (fun h12 => ?_)
      · refine j_iconst (v := nI 0) iX6_isBy_24 (by decide) ?_
        refine j_iret iX6_isBy_25 rfl (by first | rfl | exact nar_bI _ | exact nar_bP) (⟨by first | (rw [decide_eq_true (by omega)]; rfl) | (rw [decide_eq_false (by omega)]; rfl), rfl⟩)
      · refine j_iload_n iX6_isBy_15 rfl ?_
        refine j_iload_n iX6_isBy_16 rfl ?_
        refine j_icmp_neN (tgt := 24) iX6_isBy_17 (by decide) (by omega) (by omega) (fun h17 => ?_) (fun h17 => ?_)
        · refine j_iconst (v := nI 0) iX6_isBy_24 (by decide) ?_
          refine j_iret iX6_isBy_25 rfl (by first | rfl | exact nar_bI _ | exact nar_bP) (⟨by first | (rw [decide_eq_true (by omega)]; rfl) | (rw [decide_eq_false (by omega)]; rfl), rfl⟩)
        · refine j_iconst (v := nI 1) iX6_isBy_20 (by decide) ?_
          refine j_goto (tgt := 25) iX6_isBy_21 (by decide) ?_
          refine j_iret iX6_isBy_25 rfl (by first | rfl | exact nar_bI _ | exact nar_bP) (⟨by first | (rw [decide_eq_true (by omega)]; rfl) | (rw [decide_eq_false (by omega)]; rfl), rfl⟩)
theorem m_canBy (k r c : Nat) (hk : k < 5) (hr : r < 2 ^ 31) (hc : c < 2 ^ 31) : JR 1 mX6_canBy [.int (nI k), .int (nI r), .int (nI c)] w (.int (bI (goesF k r c))) w := by
  refine j_start (ls := [.int (nI k), .int (nI r), .int (nI c)]) rfl ?_
  rcases (show k = 0 ∨ k = 1 ∨ k = 2 ∨ k = 3 ∨ k = 4 by omega) with rfl | rfl | rfl | rfl | rfl
  · refine j_iload_n iX6_canBy_0 rfl ?_
    refine j_tswOut (tgt := 82) iX6_canBy_1 (by decide) (by decide) ?_
    refine j_iload_n iX6_canBy_82 rfl ?_
    refine j_iload_n iX6_canBy_83 rfl ?_
    refine j_iconst (v := nI 1) iX6_canBy_84 (by decide) ?_
    refine j_iconst (v := nI 2) iX6_canBy_85 (by decide) ?_
    refine j_S4R okX6_isBy lk_X6_134 iX6_canBy_86 (by omega) (m_isBy r c 1 2 hr hc (by decide) (by decide)) rfl (Nat.le_of_ble_eq_true rfl) (Nat.le_of_ble_eq_true rfl) ?_
    refine j_iret iX6_canBy_89 rfl (by first | rfl | exact nar_bI _ | exact nar_bP) (⟨by simp only [goesF]; rw [decide_eq_decide.mpr (goes_by r c 1 2 (by decide))], rfl⟩)
  · refine j_iload_n iX6_canBy_0 rfl ?_
    refine j_tswIn (off := 31) (tgt := 32) iX6_canBy_1 (by decide) (by decide) (by decide) (by decide) ?_
    refine j_iload_n iX6_canBy_32 rfl ?_
    refine j_iload_n iX6_canBy_33 rfl ?_
    refine j_iconst (v := nI 1) iX6_canBy_34 (by decide) ?_
    refine j_iconst (v := nI 0) iX6_canBy_35 (by decide) ?_
    refine j_S4R okX6_isBy lk_X6_134 iX6_canBy_36 (by omega) (m_isBy r c 1 0 hr hc (by decide) (by decide)) rfl (Nat.le_of_ble_eq_true rfl) (Nat.le_of_ble_eq_true rfl) ?_
    refine j_iret iX6_canBy_39 rfl (by first | rfl | exact nar_bI _ | exact nar_bP) (⟨by simp only [goesF]; rw [decide_eq_decide.mpr (show (r = 1 ∧ c = 0 ∨ r = 0 ∧ c = 1) ↔ (min r c = 0 ∧ max r c = 1) by omega)], rfl⟩)
  · refine j_iload_n iX6_canBy_0 rfl ?_
    refine j_tswIn (off := 39) (tgt := 40) iX6_canBy_1 (by decide) (by decide) (by decide) (by decide) ?_
    refine j_iload_n iX6_canBy_40 rfl ?_
    refine j_iload_n iX6_canBy_41 rfl ?_
    refine j_iconst (v := nI 1) iX6_canBy_42 (by decide) ?_
    refine j_iconst (v := nI 1) iX6_canBy_43 (by decide) ?_
    refine j_S4R okX6_isBy lk_X6_134 iX6_canBy_44 (by omega) (m_isBy r c 1 1 hr hc (by decide) (by decide)) rfl (Nat.le_of_ble_eq_true rfl) (Nat.le_of_ble_eq_true rfl) ?_
    refine j_iret iX6_canBy_47 rfl (by first | rfl | exact nar_bI _ | exact nar_bP) (⟨by simp only [goesF]; rw [decide_eq_decide.mpr (goes_by r c 1 1 (by decide))], rfl⟩)
  · refine j_iload_n iX6_canBy_0 rfl ?_
    refine j_tswIn (off := 47) (tgt := 48) iX6_canBy_1 (by decide) (by decide) (by decide) (by decide) ?_
    refine j_iload_n iX6_canBy_48 rfl ?_
    refine j_iload_n iX6_canBy_49 rfl ?_
    refine j_iconst (v := nI 1) iX6_canBy_50 (by decide) ?_
    refine j_iconst (v := nI 3) iX6_canBy_51 (by decide) ?_
    refine j_S4R okX6_isBy lk_X6_134 iX6_canBy_52 (by omega) (m_isBy r c 1 3 hr hc (by decide) (by decide)) rfl (Nat.le_of_ble_eq_true rfl) (Nat.le_of_ble_eq_true rfl) ?_
    refine j_iret iX6_canBy_55 rfl (by first | rfl | exact nar_bI _ | exact nar_bP) (⟨by simp only [goesF]; rw [decide_eq_decide.mpr (goes_by r c 1 3 (by decide))], rfl⟩)
  · refine j_iload_n iX6_canBy_0 rfl ?_
    refine j_tswIn (off := 55) (tgt := 56) iX6_canBy_1 (by decide) (by decide) (by decide) (by decide) ?_
    refine j_iload_n iX6_canBy_56 rfl ?_
    refine j_iload_n iX6_canBy_57 rfl ?_
    refine j_iconst (v := nI 1) iX6_canBy_58 (by decide) ?_
    refine j_iconst (v := nI 0) iX6_canBy_59 (by decide) ?_
    refine j_S4R okX6_isBy lk_X6_134 iX6_canBy_60 (by omega) (m_isBy r c 1 0 hr hc (by decide) (by decide)) rfl (Nat.le_of_ble_eq_true rfl) (Nat.le_of_ble_eq_true rfl) ?_
    refine j_if_neB (tgt := 76) iX6_canBy_63 (by decide) (fun h63 => ?_) (fun h63 => ?_)
    · refine j_iconst (v := nI 1) iX6_canBy_76 (by decide) ?_
      refine j_goto (tgt := 81) iX6_canBy_77 (by decide) ?_
      refine j_iret iX6_canBy_81 rfl (by first | rfl | exact nar_bI _ | exact nar_bP) (⟨by simp only [goesF]; rw [goes_12, goes_01]; first | (rw [h63, Bool.or_true]; rfl) | (rw [h63, h73]; rfl), rfl⟩)
    · refine j_iload_n iX6_canBy_66 rfl ?_
      refine j_iload_n iX6_canBy_67 rfl ?_
      refine j_iconst (v := nI 1) iX6_canBy_68 (by decide) ?_
      refine j_iconst (v := nI 2) iX6_canBy_69 (by decide) ?_
      refine j_S4R okX6_isBy lk_X6_134 iX6_canBy_70 (by omega) (m_isBy r c 1 2 hr hc (by decide) (by decide)) rfl (Nat.le_of_ble_eq_true rfl) (Nat.le_of_ble_eq_true rfl) ?_
      refine j_if_eqB (tgt := 80) iX6_canBy_73 (by decide) (fun h73 => ?_) (fun h73 => ?_)
      · refine j_iconst (v := nI 0) iX6_canBy_80 (by decide) ?_
        refine j_iret iX6_canBy_81 rfl (by first | rfl | exact nar_bI _ | exact nar_bP) (⟨by simp only [goesF]; rw [goes_12, goes_01]; first | (rw [h63, Bool.or_true]; rfl) | (rw [h63, h73]; rfl), rfl⟩)
      · refine j_iconst (v := nI 1) iX6_canBy_76 (by decide) ?_
        refine j_goto (tgt := 81) iX6_canBy_77 (by decide) ?_
        refine j_iret iX6_canBy_81 rfl (by first | rfl | exact nar_bI _ | exact nar_bP) (⟨by simp only [goesF]; rw [goes_12, goes_01]; first | (rw [h63, Bool.or_true]; rfl) | (rw [h63, h73]; rfl), rfl⟩)
theorem m_apart (a b : Nat) (ha : a < 2 ^ 31) (hb : b < 2 ^ 31) : JR 0 mX6_apart [.int (nI a), .int (nI b)] w (.int (nI (dist a b))) w := by
  refine j_start (ls := [.int (nI a), .int (nI b)]) rfl ?_
  refine j_iload_n iX6_apart_0 rfl ?_
  refine j_iload_n iX6_apart_1 rfl ?_
  refine j_icmp_leN (tgt := 11) iX6_apart_2 (by decide) (by omega) (by omega) (fun h2 => ?_) (fun h2 => ?_)
  · refine j_iload_n iX6_apart_11 rfl ?_
    refine j_iload_n iX6_apart_12 rfl ?_
    refine j_isubN iX6_apart_13 (by omega) ?_
    refine j_iret iX6_apart_14 rfl (by first | rfl | exact nar_bI _ | exact nar_bP) (⟨by congr 3; unfold dist; omega, rfl⟩)
  · refine j_iload_n iX6_apart_5 rfl ?_
    refine j_iload_n iX6_apart_6 rfl ?_
    refine j_isubN iX6_apart_7 (by omega) ?_
    refine j_goto (tgt := 14) iX6_apart_8 (by decide) ?_
    refine j_iret iX6_apart_14 rfl (by first | rfl | exact nar_bI _ | exact nar_bP) (⟨by congr 3; unfold dist; omega, rfl⟩)
end
theorem dist_comm (a b : Nat) : dist a b = dist b a := by unfold dist; omega
section
variable {w : mW} {bd R C fr lp lps sn sz : Nat} {wh : Bool} {nc nf nl tl : Nat} {sd : Int64} {ik : Bool} {kb kf kl kn : Nat} {hh : Int64} {ks sts : Nat → Nat}
theorem m_cells (hm : w[33]? = some (oM bd R C fr lp lps sn sz wh nc nf nl tl sd ik kb kf kl kn hh)) : JR 0 mX6_cells [.ref 33] w (.int (nI (R * C))) w := by
  refine j_start (ls := [.ref 33]) rfl ?_
  refine j_aload_n iX6_cells_0 rfl ?_
  refine j_get fk_X6_110 iX6_cells_1 (by repeat (first | assumption | refine wset_ne (by decide) ?_ | exact wset_lt (by (try simp only [List.length_set]); exact wsome (by assumption)))) (by rfl) ?_
  refine j_aload_n iX6_cells_4 rfl ?_
  refine j_get fk_X6_113 iX6_cells_5 (by repeat (first | assumption | refine wset_ne (by decide) ?_ | exact wset_lt (by (try simp only [List.length_set]); exact wsome (by assumption)))) (by rfl) ?_
  refine j_imulN iX6_cells_8  ?_
  refine j_iret iX6_cells_9 rfl (by first | rfl | exact nar_bI _ | exact nar_bP) (⟨rfl, rfl⟩)
theorem m_isLeaper (hm : w[33]? = some (oM bd R C fr lp lps sn sz wh nc nf nl tl sd ik kb kf kl kn hh)) (hlp : lp ≤ 4) (x : Int32) : JR 1 mX6_isLeaper [.ref 33, .int x] w (.int (bI (inR x lp))) w := by
  refine j_start (ls := [.ref 33, .int x]) rfl ?_
  refine j_iload_n iX6_isLeaper_0 rfl ?_
  refine j_iconst (v := nI 0) iX6_isLeaper_1 (by decide) ?_
  refine j_aload_n iX6_isLeaper_2 rfl ?_
  refine j_get fk_X6_119 iX6_isLeaper_3 (by repeat (first | assumption | refine wset_ne (by decide) ?_ | exact wset_lt (by (try simp only [List.length_set]); exact wsome (by assumption)))) (by rfl) ?_
  refine j_iconst (v := nI 1) iX6_isLeaper_6 (by decide) ?_
  refine j_isub iX6_isLeaper_7 ?_
  refine j_S3R okX6_within lk_X6_68 iX6_isLeaper_8 (by omega) (m_within _ _ _) rfl (Nat.le_of_ble_eq_true rfl) (Nat.le_of_ble_eq_true rfl) ?_
  refine j_iret iX6_isLeaper_11 rfl (by first | rfl | exact nar_bI _ | exact nar_bP) (⟨by rw [show nI lp - nI 1 = hI lp from rfl, wi_h (by omega)], rfl⟩)
theorem m_isCell (hm : w[33]? = some (oM bd R C fr lp lps sn sz wh nc nf nl tl sd ik kb kf kl kn hh)) (hN : R * C ≤ 12) (x : Int32) : JR 1 mX6_isCell [.ref 33, .int x] w (.int (bI (inR x (R * C)))) w := by
  refine j_start (ls := [.ref 33, .int x]) rfl ?_
  refine j_iload_n iX6_isCell_0 rfl ?_
  refine j_iconst (v := nI 0) iX6_isCell_1 (by decide) ?_
  refine j_aload_n iX6_isCell_2 rfl ?_
  refine j_V0R okX6_cells lk_X6_131 iX6_isCell_3 (by omega) (by repeat (first | assumption | refine wset_ne (by decide) ?_ | exact wset_lt (by (try simp only [List.length_set]); exact wsome (by assumption)))) rfl (m_cells hm) rfl (Nat.le_of_ble_eq_true rfl) (Nat.le_of_ble_eq_true rfl) ?_
  refine j_iconst (v := nI 1) iX6_isCell_6 (by decide) ?_
  refine j_isub iX6_isCell_7 ?_
  refine j_S3R okX6_within lk_X6_68 iX6_isCell_8 (by omega) (m_within _ _ _) rfl (Nat.le_of_ble_eq_true rfl) (Nat.le_of_ble_eq_true rfl) ?_
  refine j_iret iX6_isCell_11 rfl (by first | rfl | exact nar_bI _ | exact nar_bP) (⟨by rw [show nI (R * C) - nI 1 = hI (R * C) from rfl, wi_h (by omega)], rfl⟩)
def arStep (C fr k c t r : Nat) : Nat := r ||| if goesF k (dist (t / C) (c / C)) (dist (t % C) (c % C)) = true ∧ fr.testBit t = true then 2 ^ t else 0
theorem fold_congr {α : Type} {f g : Nat → α → α} : ∀ (n i : Nat) (x : α), (∀ j y, i ≤ j → j < i + n → f j y = g j y) → fold f n i x = fold g n i x := by
  intro n
  induction n with
  | zero => intro i x _; rfl
  | succ n ih =>
    intro i x h
    simp only [fold]
    rw [h i x (Nat.le_refl _) (by omega)]
    exact ih (i + 1) _ (fun j y h1 h2 => h j y (by omega) (by omega))
/-- bits that are put one by one -/
theorem fold_or_tb {P : Nat → Bool} : ∀ (n i r b : Nat), (fold (fun t r => if P t = true then r ||| 2 ^ t else r) n i r).testBit b = (r.testBit b || (decide (i ≤ b ∧ b < i + n) && P b)) := by
  intro n
  induction n with
  | zero => intro i r b; simp only [fold]; rw [decide_eq_false (by omega)]; simp
  | succ n ih =>
    intro i r b
    simp only [fold]
    rw [ih]
    by_cases hP : P i = true
    · rw [if_pos hP, Nat.testBit_or, Nat.testBit_two_pow]
      by_cases hb : i = b
      · subst hb
        rw [hP, decide_eq_true (rfl : i = i), decide_eq_true (show i ≤ i ∧ i < i + (n + 1) by omega), decide_eq_false (by omega)]
        simp
      · have e : decide (i + 1 ≤ b ∧ b < i + 1 + n) = decide (i ≤ b ∧ b < i + (n + 1)) := decide_eq_decide.mpr (by omega)
        rw [decide_eq_false hb, e]
        simp
    · rw [if_neg hP]
      by_cases hb : i = b
      · subst hb
        have hf : P i = false := by simpa using hP
        rw [hf]; simp
      · have e : decide (i + 1 ≤ b ∧ b < i + 1 + n) = decide (i ≤ b ∧ b < i + (n + 1)) := decide_eq_decide.mpr (by omega)
        rw [e]
theorem fan_tb {C N k c : Nat} (hc : c < N) (t : Nat) : (fanF C N k c).testBit t = (decide (t < N) && goesF k (dist (c / C) (t / C)) (dist (c % C) (t % C))) := by
  unfold fanF
  rw [if_neg (by omega)]
  have := fold_or_tb (P := fun t => goesF k (dist (c / C) (t / C)) (dist (c % C) (t % C))) N 0 0 t
  rw [show fanStep C k c = fun t r => if goesF k (dist (c / C) (t / C)) (dist (c % C) (t % C)) = true then r ||| 2 ^ t else r from rfl, this, Nat.zero_testBit]
  simp
theorem ar_eq {C N fr k c : Nat} (hc : c < N) : fold (arStep C fr k c) N 0 0 = fanF C N k c &&& fr := by
  apply Nat.eq_of_testBit_eq
  intro b
  have e := fold_or_tb (P := fun t => goesF k (dist (t / C) (c / C)) (dist (t % C) (c % C)) && fr.testBit t) N 0 0 b
  rw [fold_congr N 0 0 (g := fun t r => if (goesF k (dist (t / C) (c / C)) (dist (t % C) (c % C)) && fr.testBit t) = true then r ||| 2 ^ t else r) (fun j y _ _ => by
    unfold arStep
    by_cases h : goesF k (dist (j / C) (c / C)) (dist (j % C) (c % C)) = true ∧ fr.testBit j = true
    · rw [if_pos h, if_pos (by rw [h.1, h.2]; rfl)]
    · rw [if_neg h, if_neg (fun z => h (by simpa using z)), Nat.or_zero]), e, Nat.testBit_and, fan_tb hc, Nat.zero_testBit, dist_comm (c / C), dist_comm (c % C)]
  simp [Bool.and_assoc]
theorem m_around (hm : w[33]? = some (oM bd R C fr lp lps sn sz wh nc nf nl tl sd ik kb kf kl kn hh)) (hN : R * C ≤ 12) (hfr : fr < 4096) (k c : Nat) (hk : k < 5) (hc : c < R * C) : JR 2 mX6_around [.ref 33, .int (nI k), .int (nI c)] w (.int (nI (fanF C (R * C) k c &&& fr))) w := by
  have hC0 : 0 < C := Nat.pos_of_ne_zero (fun e => by rw [e, Nat.mul_zero] at hc; omega)
  have hR0 : 0 < R := Nat.pos_of_ne_zero (fun e => by rw [e, Nat.zero_mul] at hc; omega)
  have hC2 : C ≤ 12 := Nat.le_trans (Nat.le_mul_of_pos_left C hR0) hN
  have D : ∀ t, t < 12 → t / C < 2 ^ 30 ∧ t % C < 2 ^ 30 := fun t ht => ⟨Nat.lt_of_le_of_lt (Nat.div_le_self _ _) (by omega), Nat.lt_of_le_of_lt (Nat.mod_le _ _) (by omega)⟩
  have hcD := D c (by omega)
  have L : ∀ (n t r : Nat), t + n = R * C → J 2 mX6_around 5 [.ref 33, .int (nI k), .int (nI c), .int (nI r), .int (nI t), .null] [] w (fun v u => v = some (.int (nI (fold (arStep C fr k c) n t r))) ∧ u = w) := by
    intro n
    induction n with
    | zero =>
      intro t r ht
      refine j_iload iX6_around_5 rfl ?_
      refine j_aload_n iX6_around_7 rfl ?_
      refine j_V0R okX6_cells lk_X6_131 iX6_around_8 (by omega) (by repeat (first | assumption | refine wset_ne (by decide) ?_ | exact wset_lt (by (try simp only [List.length_set]); exact wsome (by assumption)))) rfl (m_cells hm) rfl (Nat.le_of_ble_eq_true rfl) (Nat.le_of_ble_eq_true rfl) ?_
      refine j_icmp_geN (tgt := 86) iX6_around_11 (by decide) (by omega) (by omega) (fun _ => ?_) (fun hno => by exfalso; omega)
      refine j_iload_n iX6_around_86 rfl ?_
      refine j_iret iX6_around_87 rfl (by first | rfl | exact nar_bI _ | exact nar_bP) (⟨rfl, rfl⟩)
    | succ n ih =>
      intro t r ht
      have htD := D t (by omega)
      have hd1 := dist_lt htD.1 hcD.1
      have hd2 := dist_lt htD.2 hcD.2
      refine j_iload iX6_around_5 rfl ?_
      refine j_aload_n iX6_around_7 rfl ?_
      refine j_V0R okX6_cells lk_X6_131 iX6_around_8 (by omega) (by repeat (first | assumption | refine wset_ne (by decide) ?_ | exact wset_lt (by (try simp only [List.length_set]); exact wsome (by assumption)))) rfl (m_cells hm) rfl (Nat.le_of_ble_eq_true rfl) (Nat.le_of_ble_eq_true rfl) ?_
      refine j_icmp_geN (tgt := 86) iX6_around_11 (by decide) (by omega) (by omega) (fun hno => by exfalso; omega) (fun _ => ?_)
      refine j_iload_n iX6_around_14 rfl ?_
      refine j_iload iX6_around_15 rfl ?_
      refine j_aload_n iX6_around_17 rfl ?_
      refine j_get fk_X6_113 iX6_around_18 (by repeat (first | assumption | refine wset_ne (by decide) ?_ | exact wset_lt (by (try simp only [List.length_set]); exact wsome (by assumption)))) (by rfl) ?_
      refine j_idivN iX6_around_21 (by omega) (by omega) (by omega) ?_
      refine j_iload_n iX6_around_22 rfl ?_
      refine j_aload_n iX6_around_23 rfl ?_
      refine j_get fk_X6_113 iX6_around_24 (by repeat (first | assumption | refine wset_ne (by decide) ?_ | exact wset_lt (by (try simp only [List.length_set]); exact wsome (by assumption)))) (by rfl) ?_
      refine j_idivN iX6_around_27 (by omega) (by omega) (by omega) ?_
      refine j_S2R okX6_apart lk_X6_138 iX6_around_28 (by omega) (m_apart _ _ (by omega) (by omega)) rfl (Nat.le_of_ble_eq_true rfl) (Nat.le_of_ble_eq_true rfl) ?_
      refine j_iload iX6_around_31 rfl ?_
      refine j_aload_n iX6_around_33 rfl ?_
      refine j_get fk_X6_113 iX6_around_34 (by repeat (first | assumption | refine wset_ne (by decide) ?_ | exact wset_lt (by (try simp only [List.length_set]); exact wsome (by assumption)))) (by rfl) ?_
      refine j_iremN iX6_around_37 (by omega) (by omega) (by omega) ?_
      refine j_iload_n iX6_around_38 rfl ?_
      refine j_aload_n iX6_around_39 rfl ?_
      refine j_get fk_X6_113 iX6_around_40 (by repeat (first | assumption | refine wset_ne (by decide) ?_ | exact wset_lt (by (try simp only [List.length_set]); exact wsome (by assumption)))) (by rfl) ?_
      refine j_iremN iX6_around_43 (by omega) (by omega) (by omega) ?_
      refine j_S2R okX6_apart lk_X6_138 iX6_around_44 (by omega) (m_apart _ _ (by omega) (by omega)) rfl (Nat.le_of_ble_eq_true rfl) (Nat.le_of_ble_eq_true rfl) ?_
      refine j_S3R okX6_canBy lk_X6_142 iX6_around_47 (by omega) (m_canBy k _ _ hk hd1 hd2) rfl (Nat.le_of_ble_eq_true rfl) (Nat.le_of_ble_eq_true rfl) ?_
      refine j_istore iX6_around_50 (by decide) rfl ?_
      dsimp only [List.set]
      refine j_iload_n iX6_around_52 rfl ?_
      refine j_iload iX6_around_53 rfl ?_
      refine j_if_eqB (tgt := 77) iX6_around_55 (by decide) (fun h55 => ?_) (fun h55 => ?_)
      · refine j_iconst (v := nI 0) iX6_around_77 (by decide) ?_
        refine j_iorN iX6_around_78  ?_
        refine j_istore_n iX6_around_79 (by decide) rfl ?_
        dsimp only [List.set]
        refine j_iincN iX6_around_80 rfl (by decide) rfl ?_
        dsimp only [List.set]
        refine j_goto (tgt := 5) iX6_around_83 (by decide) ?_
        first | exact J.fg (by simpa only [fold, arStep, if_neg (fun z : goesF k (dist (t / C) (c / C)) (dist (t % C) (c % C)) = true ∧ fr.testBit t = true => nt h55 z.1)] using ih (t + 1) (r ||| 0) (by omega)) (by first | (simp [LF]; done) | (simp [LF, bI]; done)) | exact J.fg (by simpa only [fold, arStep, if_neg (fun z : goesF k (dist (t / C) (c / C)) (dist (t % C) (c % C)) = true ∧ fr.testBit t = true => nt h67 z.2)] using ih (t + 1) (r ||| 0) (by omega)) (by first | (simp [LF]; done) | (simp [LF, bI]; done)) | exact J.fg (by simpa only [fold, arStep, if_pos (And.intro h55 h67)] using ih (t + 1) (r ||| 2 ^ t) (by omega)) (by first | (simp [LF]; done) | (simp [LF, bI]; done))
      · refine j_aload_n iX6_around_58 rfl ?_
        refine j_get fk_X6_116 iX6_around_59 (by repeat (first | assumption | refine wset_ne (by decide) ?_ | exact wset_lt (by (try simp only [List.length_set]); exact wsome (by assumption)))) (by rfl) ?_
        refine j_iload iX6_around_62 rfl ?_
        refine j_S2R okX6_isIn lk_X6_92 iX6_around_64 (by omega) (m_isIn fr t (by omega) (by omega)) rfl (Nat.le_of_ble_eq_true rfl) (Nat.le_of_ble_eq_true rfl) ?_
        refine j_if_eqB (tgt := 77) iX6_around_67 (by decide) (fun h67 => ?_) (fun h67 => ?_)
        · refine j_iconst (v := nI 0) iX6_around_77 (by decide) ?_
          refine j_iorN iX6_around_78  ?_
          refine j_istore_n iX6_around_79 (by decide) rfl ?_
          dsimp only [List.set]
          refine j_iincN iX6_around_80 rfl (by decide) rfl ?_
          dsimp only [List.set]
          refine j_goto (tgt := 5) iX6_around_83 (by decide) ?_
          first | exact J.fg (by simpa only [fold, arStep, if_neg (fun z : goesF k (dist (t / C) (c / C)) (dist (t % C) (c % C)) = true ∧ fr.testBit t = true => nt h55 z.1)] using ih (t + 1) (r ||| 0) (by omega)) (by first | (simp [LF]; done) | (simp [LF, bI]; done)) | exact J.fg (by simpa only [fold, arStep, if_neg (fun z : goesF k (dist (t / C) (c / C)) (dist (t % C) (c % C)) = true ∧ fr.testBit t = true => nt h67 z.2)] using ih (t + 1) (r ||| 0) (by omega)) (by first | (simp [LF]; done) | (simp [LF, bI]; done)) | exact J.fg (by simpa only [fold, arStep, if_pos (And.intro h55 h67)] using ih (t + 1) (r ||| 2 ^ t) (by omega)) (by first | (simp [LF]; done) | (simp [LF, bI]; done))
        · refine j_iconst (v := nI 1) iX6_around_70 (by decide) ?_
          refine j_iload iX6_around_71 rfl ?_
          refine j_ishlN iX6_around_73 (by omega) ?_
          refine j_goto (tgt := 78) iX6_around_74 (by decide) ?_
          refine j_iorN iX6_around_78  ?_
          refine j_istore_n iX6_around_79 (by decide) rfl ?_
          dsimp only [List.set]
          refine j_iincN iX6_around_80 rfl (by decide) rfl ?_
          dsimp only [List.set]
          refine j_goto (tgt := 5) iX6_around_83 (by decide) ?_
          first | exact J.fg (by simpa only [fold, arStep, if_neg (fun z : goesF k (dist (t / C) (c / C)) (dist (t % C) (c % C)) = true ∧ fr.testBit t = true => nt h55 z.1)] using ih (t + 1) (r ||| 0) (by omega)) (by first | (simp [LF]; done) | (simp [LF, bI]; done)) | exact J.fg (by simpa only [fold, arStep, if_neg (fun z : goesF k (dist (t / C) (c / C)) (dist (t % C) (c % C)) = true ∧ fr.testBit t = true => nt h67 z.2)] using ih (t + 1) (r ||| 0) (by omega)) (by first | (simp [LF]; done) | (simp [LF, bI]; done)) | exact J.fg (by simpa only [fold, arStep, if_pos (And.intro h55 h67)] using ih (t + 1) (r ||| 2 ^ t) (by omega)) (by first | (simp [LF]; done) | (simp [LF, bI]; done))
  refine j_start (ls := [.ref 33, .int (nI k), .int (nI c), .null, .null, .null]) rfl ?_
  refine j_iconst (v := nI 0) iX6_around_0 (by decide) ?_
  refine j_istore_n iX6_around_1 (by decide) rfl ?_
  dsimp only [List.set]
  refine j_iconst (v := nI 0) iX6_around_2 (by decide) ?_
  refine j_istore iX6_around_3 (by decide) rfl ?_
  dsimp only [List.set]
  exact (by rw [← ar_eq hc]; exact L (R * C) 0 0 (by omega))
end
