/-! ===== the class: what needs no object ===== -/
theorem c_has {w : mW} (S c : Nat) (hS : S < 2 ^ 31) (hc : c < 32) : JR 0 mX5_has [.int (nI S), .int (nI c)] w (.int (bI (S.testBit c))) w := by
  refine j_start (ls := [.int (nI S), .int (nI c)]) rfl ?_
  refine j_iload_n iX5_has_0 rfl ?_
  refine j_iload_n iX5_has_1 rfl ?_
  refine j_ishrN iX5_has_2 (by omega) (by omega) ?_
  refine j_iconst (v := nI 1) iX5_has_3 (by decide) ?_
  refine j_iandBit iX5_has_4 ?_
  refine j_iconst (v := nI 1) iX5_has_5 (by decide) ?_
  refine j_icmp_neT (tgt := 13) iX5_has_6 (by decide) (fun h6 => ?_) (fun h6 => ?_)
  · refine j_iconst (v := nI 0) iX5_has_13 (by decide) ?_
    refine j_iret iX5_has_14 rfl (by first | rfl | exact nar_bI _ | exact nar_bP) (⟨by rw [h6]; rfl, rfl⟩)
  · refine j_iconst (v := nI 1) iX5_has_9 (by decide) ?_
    refine j_goto (tgt := 14) iX5_has_10 (by decide) ?_
    refine j_iret iX5_has_14 rfl (by first | rfl | exact nar_bI _ | exact nar_bP) (⟨by rw [h6]; rfl, rfl⟩)
def nthFrom (S n : Nat) : Nat → Nat → Nat → Option Nat
  | 0, _, _ => none
  | k + 1, i, a => if S.testBit i = true then (if a = n then some i else nthFrom S n k (i + 1) (a + 1)) else nthFrom S n k (i + 1) a
def nth (S n : Nat) : Option Nat := nthFrom S n 12 0 0
theorem c_nthOf {w : mW} (S n : Nat) (hS : S < 2 ^ 31) (hn : n < 2 ^ 31) : JR 1 mX5_nthOf [.int (nI S), .int (nI n)] w (.int (oN (nth S n))) w := by
  have L : ∀ (k i a : Nat), i + k = 12 → a ≤ i → J 1 mX5_nthOf 4 [.int (nI S), .int (nI n), .int (nI a), .int (nI i)] [] w (fun v u => v = some (.int (oN (nthFrom S n k i a))) ∧ u = w) := by
    intro k
    induction k with
    | zero =>
      intro i a hi ha
      refine j_iload_n iX5_nthOf_4 rfl ?_
      refine j_bipush (v := nI 12) iX5_nthOf_5 (by decide) ?_
      refine j_icmp_geN (tgt := 34) iX5_nthOf_7 (by decide) (by omega) (by omega) (fun _ => ?_) (fun hno => by exfalso; omega)
      refine j_iconst (v := (-1)) iX5_nthOf_34 (by decide) ?_
      refine j_iret iX5_nthOf_35 rfl (by first | rfl | exact nar_bI _ | exact nar_bP) (⟨rfl, rfl⟩)
    | succ k ih =>
      intro i a hi ha
      refine j_iload_n iX5_nthOf_4 rfl ?_
      refine j_bipush (v := nI 12) iX5_nthOf_5 (by decide) ?_
      refine j_icmp_geN (tgt := 34) iX5_nthOf_7 (by decide) (by omega) (by omega) (fun hno => by exfalso; omega) (fun _ => ?_)
      refine j_iload_n iX5_nthOf_10 rfl ?_
      refine j_iload_n iX5_nthOf_11 rfl ?_
      refine j_S2R okX5_has lk_X5_158 iX5_nthOf_12 (by omega) (c_has _ _ hS (by omega)) rfl (Nat.le_of_ble_eq_true rfl) (Nat.le_of_ble_eq_true rfl) ?_
      refine j_if_eqB (tgt := 28) iX5_nthOf_15 (by decide) (fun h15 => ?_) (fun h15 => ?_)
      · refine j_iincN iX5_nthOf_28 rfl (by decide) rfl ?_
        dsimp only [List.set]
        refine j_goto (tgt := 4) iX5_nthOf_31 (by decide) ?_
        first | exact (by simpa only [nthFrom, h15, h20, if_true, if_false] using ih (i + 1) (a + 1) (by omega) (by omega)) | exact (by simpa [nthFrom, h15] using ih (i + 1) a (by omega) (by omega))
      · refine j_iload_n iX5_nthOf_18 rfl ?_
        refine j_iload_n iX5_nthOf_19 rfl ?_
        refine j_icmp_neN (tgt := 25) iX5_nthOf_20 (by decide) (by omega) (by omega) (fun h20 => ?_) (fun h20 => ?_)
        · refine j_iincN iX5_nthOf_25 rfl (by decide) rfl ?_
          dsimp only [List.set]
          refine j_iincN iX5_nthOf_28 rfl (by decide) rfl ?_
          dsimp only [List.set]
          refine j_goto (tgt := 4) iX5_nthOf_31 (by decide) ?_
          first | exact (by simpa only [nthFrom, h15, h20, if_true, if_false] using ih (i + 1) (a + 1) (by omega) (by omega)) | exact (by simpa [nthFrom, h15] using ih (i + 1) a (by omega) (by omega))
        · refine j_iload_n iX5_nthOf_23 rfl ?_
          refine j_iret iX5_nthOf_24 rfl (by first | rfl | exact nar_bI _ | exact nar_bP) (⟨by simp only [nthFrom, h15, h20]; rfl, rfl⟩)
  refine j_start (ls := [.int (nI S), .int (nI n), .null, .null]) rfl ?_
  refine j_iconst (v := nI 0) iX5_nthOf_0 (by decide) ?_
  refine j_istore_n iX5_nthOf_1 (by decide) rfl ?_
  dsimp only [List.set]
  refine j_iconst (v := nI 0) iX5_nthOf_2 (by decide) ?_
  refine j_istore_n iX5_nthOf_3 (by decide) rfl ?_
  dsimp only [List.set]
  exact L 12 0 0 rfl (Nat.le_refl _)
theorem c_lowestOf {w : mW} (S : Nat) (hS : S < 2 ^ 31) : JR 2 mX5_lowestOf [.int (nI S)] w (.int (oN (nth S 0))) w := by
  refine j_start (ls := [.int (nI S)]) rfl ?_
  refine j_iload_n iX5_lowestOf_0 rfl ?_
  refine j_iconst (v := nI 0) iX5_lowestOf_1 (by decide) ?_
  refine j_S2R okX5_nthOf lk_X5_286 iX5_lowestOf_2 (by omega) (c_nthOf _ _ hS (by decide)) rfl (Nat.le_of_ble_eq_true rfl) (Nat.le_of_ble_eq_true rfl) ?_
  refine j_iret iX5_lowestOf_5 rfl (by first | rfl | exact nar_bI _ | exact nar_bP) (⟨rfl, rfl⟩)
/-- x is a number below n -/
def inR (x : Int32) (n : Nat) : Bool := decide (¬ x < 0 ∧ x < nI n)
theorem inR_f0 {x : Int32} {n : Nat} (h : x < 0) : inR x n = false := by simp [inR, h]
theorem inR_f {x : Int32} {n : Nat} (h : nI n ≤ x) : inR x n = false := by
  have : ¬ x < nI n := Int32.not_lt.mpr h
  simp [inR, this]
theorem inR_t {x : Int32} {n : Nat} (h0 : ¬ x < 0) (h : ¬ nI n ≤ x) : inR x n = true := by
  have : x < nI n := Int32.not_le.mp h
  simp [inR, h0, this]
theorem inR_nI {j n : Nat} (hj : j < 2 ^ 31) (hn : n < 2 ^ 31) : inR (nI j) n = decide (j < n) := by
  have h := nI_pos hj
  simp only [inR, nI_ltI hj hn, h, not_false_eq_true, true_and]
theorem inR_ex {x : Int32} {n : Nat} (hn : n < 2 ^ 31) (h : inR x n = true) : ∃ j : Nat, j < n ∧ x = nI j := by
  simp only [inR, decide_eq_true_eq] at h
  rcases pk_ix x hn with h1 | h1 | h1
  · exact absurd h1 h.1
  · exact absurd h.2 (Int32.not_lt.mpr h1)
  · exact h1
theorem c_isKind {w : mW} (x : Int32) : JR 0 mX5_isKind [.int x] w (.int (bI (inR x 5))) w := by
  refine j_start (ls := [.int x]) rfl ?_
  refine j_iload_n iX5_isKind_0 rfl ?_
  refine j_if_lt (tgt := 13) iX5_isKind_1 (by decide) (fun h1 => ?_) (fun h1 => ?_)
  · refine j_iconst (v := nI 0) iX5_isKind_13 (by decide) ?_
    refine j_iret iX5_isKind_14 rfl (by first | rfl | exact nar_bI _ | exact nar_bP) (⟨by first | rw [inR_f0 h1]; rfl | rw [inR_f h6]; rfl | rw [inR_t h1 h6]; rfl, rfl⟩)
  · refine j_iload_n iX5_isKind_4 rfl ?_
    refine j_iconst (v := nI 5) iX5_isKind_5 (by decide) ?_
    refine j_icmp_ge (tgt := 13) iX5_isKind_6 (by decide) (fun h6 => ?_) (fun h6 => ?_)
    · refine j_iconst (v := nI 0) iX5_isKind_13 (by decide) ?_
      refine j_iret iX5_isKind_14 rfl (by first | rfl | exact nar_bI _ | exact nar_bP) (⟨by first | rw [inR_f0 h1]; rfl | rw [inR_f h6]; rfl | rw [inR_t h1 h6]; rfl, rfl⟩)
    · refine j_iconst (v := nI 1) iX5_isKind_9 (by decide) ?_
      refine j_goto (tgt := 14) iX5_isKind_10 (by decide) ?_
      refine j_iret iX5_isKind_14 rfl (by first | rfl | exact nar_bI _ | exact nar_bP) (⟨by first | rw [inR_f0 h1]; rfl | rw [inR_f h6]; rfl | rw [inR_t h1 h6]; rfl, rfl⟩)
def spreadFrom (f : Nat → Nat) (S : Nat) : Nat → Nat → Nat → Nat
  | 0, _, r => r
  | k + 1, i, r => spreadFrom f S k (i + 1) (if S.testBit i = true then r ||| f i else r)
def spread (f : Nat → Nat) (S : Nat) : Nat := spreadFrom f S 12 0 0
theorem c_spread {w : mW} {a : Nat} {f : Nat → Nat} (hc : w[a]? = some (iA 12 (fun i => nI (f i)))) (S : Nat) (hS : S < 2 ^ 31) : JR 0 mX1_spread [.ref a, .int (nI S)] w (.int (nI (spread f S))) w := by
  have L : ∀ (k i r : Nat), i + k = 12 → J 0 mX1_spread 4 [.ref a, .int (nI S), .int (nI r), .int (nI i)] [] w (fun v u => v = some (.int (nI (spreadFrom f S k i r))) ∧ u = w) := by
    intro k
    induction k with
    | zero =>
      intro i r hi
      refine j_iload_n iX1_spread_4 rfl ?_
      refine j_aload_n iX1_spread_5 rfl ?_
      refine j_alen iX1_spread_6 (by repeat (first | assumption | refine wset_ne (by decide) ?_ | exact wset_lt (by (try simp only [List.length_set]); exact wsome (by assumption)))) (by decide) (by rfl) ?_
      refine j_icmp_geN (tgt := 31) iX1_spread_7 (by decide) (by omega) (by omega) (fun _ => ?_) (fun hno => by exfalso; omega)
      refine j_iload_n iX1_spread_31 rfl ?_
      refine j_iret iX1_spread_32 rfl (by first | rfl | exact nar_bI _ | exact nar_bP) (⟨rfl, rfl⟩)
    | succ k ih =>
      intro i r hi
      refine j_iload_n iX1_spread_4 rfl ?_
      refine j_aload_n iX1_spread_5 rfl ?_
      refine j_alen iX1_spread_6 (by repeat (first | assumption | refine wset_ne (by decide) ?_ | exact wset_lt (by (try simp only [List.length_set]); exact wsome (by assumption)))) (by decide) (by rfl) ?_
      refine j_icmp_geN (tgt := 31) iX1_spread_7 (by decide) (by omega) (by omega) (fun hno => by exfalso; omega) (fun _ => ?_)
      refine j_iload_n iX1_spread_10 rfl ?_
      refine j_iload_n iX1_spread_11 rfl ?_
      refine j_ishrN iX1_spread_12 (by omega) (by omega) ?_
      refine j_iconst (v := nI 1) iX1_spread_13 (by decide) ?_
      refine j_iandBit iX1_spread_14 ?_
      refine j_iconst (v := nI 1) iX1_spread_15 (by decide) ?_
      refine j_icmp_neT (tgt := 25) iX1_spread_16 (by decide) (fun h16 => ?_) (fun h16 => ?_)
      · refine j_iincN iX1_spread_25 rfl (by decide) rfl ?_
        dsimp only [List.set]
        refine j_goto (tgt := 4) iX1_spread_28 (by decide) ?_
        first | exact (by simpa [spreadFrom, h16] using ih (i + 1) (r ||| f i) (by omega)) | exact (by simpa [spreadFrom, h16] using ih (i + 1) r (by omega))
      · refine j_iload_n iX1_spread_19 rfl ?_
        refine j_aload_n iX1_spread_20 rfl ?_
        refine j_iload_n iX1_spread_21 rfl ?_
        refine j_ialdN iX1_spread_22 (by repeat (first | assumption | refine wset_ne (by decide) ?_ | exact wset_lt (by (try simp only [List.length_set]); exact wsome (by assumption)))) (by omega) ?_
        refine j_iorN iX1_spread_23  ?_
        refine j_istore_n iX1_spread_24 (by decide) rfl ?_
        dsimp only [List.set]
        refine j_iincN iX1_spread_25 rfl (by decide) rfl ?_
        dsimp only [List.set]
        refine j_goto (tgt := 4) iX1_spread_28 (by decide) ?_
        first | exact (by simpa [spreadFrom, h16] using ih (i + 1) (r ||| f i) (by omega)) | exact (by simpa [spreadFrom, h16] using ih (i + 1) r (by omega))
  refine j_start (ls := [.ref a, .int (nI S), .null, .null]) rfl ?_
  refine j_iconst (v := nI 0) iX1_spread_0 (by decide) ?_
  refine j_istore_n iX1_spread_1 (by decide) rfl ?_
  dsimp only [List.set]
  refine j_iconst (v := nI 0) iX1_spread_2 (by decide) ?_
  refine j_istore_n iX1_spread_3 (by decide) rfl ?_
  dsimp only [List.set]
  exact L 12 0 0 rfl
