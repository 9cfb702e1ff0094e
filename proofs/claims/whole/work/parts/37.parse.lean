/-! ===== the reference: how a page is read ===== -/
theorem fault_of {pg : Nat → Nat} {sz p : Nat} (h1 : ∀ q, q < p → fitsF pg (nF pg) q = true) (h2 : p ≤ sz) (h3 : p < sz → fitsF pg (nF pg) p = false) : faultF pg sz = p := by
  have : ∀ n i, i + n = sz → i ≤ p → ftFrom pg (nF pg) n i = p := by
    intro n
    induction n with
    | zero => intro i h4 h5; unfold ftFrom; omega
    | succ n ih =>
      intro i h4 h5
      unfold ftFrom
      by_cases e : i = p
      · subst e; rw [if_neg (nt (h3 (by omega)))]
      · rw [if_pos (h1 i (by omega))]; exact ih (i + 1) (by omega) (by omega)
  exact this sz 0 (by omega) (Nat.zero_le _)
theorem whole_f1 {pg : Nat → Nat} {sz : Nat} (h : faultF pg sz ≠ sz) : wholeF pg sz = false := decide_eq_false (fun z => h z.1)
theorem whole_f2 {pg : Nat → Nat} {sz : Nat} (h : ¬ (2 ≤ sz ∧ 4 + nF pg < sz ∧ (sz - (4 + nF pg)) % 3 = 2)) : wholeF pg sz = false := decide_eq_false (fun z => h z.2)
/-- what fits behind the cells -/
theorem fits_tail {pg : Nat → Nat} {N q : Nat} (h : 4 + N ≤ q) : fitsF pg N q = if (q - (4 + N)) % 3 = 0 then (kindIx (pg q)).isSome else if (q - (4 + N)) % 3 = 1 then openF pg N ((q - (4 + N)) / 3) else decide (pg q = 44 ∧ (q - (4 + N)) / 3 < 3) := by
  unfold fitsF
  rw [if_neg (by omega), if_neg (by omega), if_neg (by omega), if_neg (by omega)]
theorem openFrom_iff {pg : Nat → Nat} {N c : Nat} : ∀ n i, openFrom pg N c n i = true ↔ ∀ j, i ≤ j → j < i + n → pg (4 + N + 3 * j + 1) ≠ c := by
  intro n
  induction n with
  | zero => intro i; exact ⟨fun _ j h1 h2 => by omega, fun _ => rfl⟩
  | succ n ih =>
    intro i
    unfold openFrom
    by_cases h : pg (4 + N + 3 * i + 1) = c
    · rw [if_pos h]
      exact ⟨fun z => Bool.noConfusion z, fun z => absurd h (z i (Nat.le_refl _) (by omega))⟩
    · rw [if_neg h, ih]
      exact ⟨fun z j h1 h2 => (if e : j = i then by rw [e]; exact h else z j (by omega) (by omega)), fun z j h1 h2 => z j (by omega) (by omega)⟩
section
variable {w : mW} {bd R C fr lp lps sn sz : Nat} {wh : Bool} {nc nf nl tl : Nat} {sd : Int64} {ik : Bool} {kb kf kl kn : Nat} {hh : Int64} {ks sts pg sof rr cc cn : Nat → Nat}
theorem atM_lt {pg : Nat → Nat} {sz k : Nat} (h : k < sz) : atM pg sz k = pg k := if_pos h
theorem atM_ge {pg : Nat → Nat} {sz k : Nat} (h : sz ≤ k) : atM pg sz k = 0 := if_neg (by omega)
theorem m_readCells {N : Nat} (hm : w[33]? = some (oM bd R C fr lp lps sn sz wh (N) (0) nl tl sd ik kb kf kl kn hh)) (h40 : w[40]? = some (pB pg)) (hsz : sz ≤ 30) (hpg : ∀ i, pg i < 127) (hN : N ≤ 12) (h3 : 3 ≤ sz) : JX 1 mX6_readCells [.ref 33, .int (nI 3)] w (fun v u => ∃ j, j ≤ N ∧ 3 + j ≤ sz ∧ (∀ c, c < j → pg (3 + c) = 46 ∨ pg (3 + c) = 35) ∧ (j < N → ¬ (atM pg sz (3 + j) = 46 ∨ atM pg sz (3 + j) = 35)) ∧ v = some (.int (nI (3 + j))) ∧ u = w.set 33 (oM bd R C fr lp lps sn sz wh (N) (fold (freeStep pg) j 0 0) nl tl sd ik kb kf kl kn hh)) := by
  have L : ∀ (n j : Nat), j + n = N → 3 + j ≤ sz → (∀ c, c < j → pg (3 + c) = 46 ∨ pg (3 + c) = 35) → J 1 mX6_readCells 2 [.ref 33, .int (nI 3), .int (nI j)] [] (w.set 33 (oM bd R C fr lp lps sn sz wh (N) (fold (freeStep pg) j 0 0) nl tl sd ik kb kf kl kn hh)) (fun v u => ∃ j, j ≤ N ∧ 3 + j ≤ sz ∧ (∀ c, c < j → pg (3 + c) = 46 ∨ pg (3 + c) = 35) ∧ (j < N → ¬ (atM pg sz (3 + j) = 46 ∨ atM pg sz (3 + j) = 35)) ∧ v = some (.int (nI (3 + j))) ∧ u = w.set 33 (oM bd R C fr lp lps sn sz wh (N) (fold (freeStep pg) j 0 0) nl tl sd ik kb kf kl kn hh)) := by
    intro n
    induction n with
    | zero =>
      intro j hj h1 h2
      refine j_iload_n iX6_readCells_2 rfl ?_
      refine j_aload_n iX6_readCells_3 rfl ?_
      refine j_get fk_X6_76 iX6_readCells_4 (by repeat (first | assumption | refine wset_ne (by decide) ?_ | exact wset_lt (by (try simp only [List.length_set]); exact wsome (by assumption)))) (by rfl) ?_
      refine j_icmp_geN (tgt := 68) iX6_readCells_7 (by decide) (by omega) (by omega) (fun _ => ?_) (fun hno => by exfalso; omega)
      refine j_iload_n iX6_readCells_68 rfl ?_
      refine j_iload_n iX6_readCells_69 rfl ?_
      refine j_iaddN iX6_readCells_70  ?_
      refine j_iret iX6_readCells_71 rfl (by first | rfl | exact nar_bI _ | exact nar_bP) (⟨j, by omega, h1, h2, fun z => by omega, rfl, rfl⟩)
    | succ n ih =>
      intro j hj h1 h2
      have hb : atM pg sz (3 + j) < 127 := by unfold atM; split; exact hpg _; decide
      have hsucc : ∀ r, fold (freeStep pg) (j + 1) 0 r = freeStep pg j (fold (freeStep pg) j 0 r) := fun r => by rw [fold_add j 1]; simp only [fold]; rw [Nat.zero_add]
      have good : atM pg sz (3 + j) = 46 ∨ atM pg sz (3 + j) = 35 → 3 + (j + 1) ≤ sz ∧ pg (3 + j) = atM pg sz (3 + j) := fun z => by
        by_cases q : 3 + j < sz
        · exact ⟨by omega, (atM_lt q).symm⟩
        · rw [atM_ge (by omega)] at z; omega
      have K : ∀ b : Nat, (atM pg sz (3 + j) = 46 ∨ atM pg sz (3 + j) = 35) → b = freeStep pg j (fold (freeStep pg) j 0 0) → J 1 mX6_readCells 2 [.ref 33, .int (nI 3), .int (nI (j + 1))] [] (w.set 33 (oM bd R C fr lp lps sn sz wh (N) (b) nl tl sd ik kb kf kl kn hh)) (fun v u => ∃ j, j ≤ N ∧ 3 + j ≤ sz ∧ (∀ c, c < j → pg (3 + c) = 46 ∨ pg (3 + c) = 35) ∧ (j < N → ¬ (atM pg sz (3 + j) = 46 ∨ atM pg sz (3 + j) = 35)) ∧ v = some (.int (nI (3 + j))) ∧ u = w.set 33 (oM bd R C fr lp lps sn sz wh (N) (fold (freeStep pg) j 0 0) nl tl sd ik kb kf kl kn hh)) := by
        intro b hg hb2
        have g := good hg
        have e := ih (j + 1) (by omega) g.1 (fun c hc => by rcases Nat.lt_succ_iff_lt_or_eq.mp hc with z | z; exact h2 c z; rw [z, g.2]; exact hg)
        rw [hsucc, ← hb2] at e
        exact e
      refine j_iload_n iX6_readCells_2 rfl ?_
      refine j_aload_n iX6_readCells_3 rfl ?_
      refine j_get fk_X6_76 iX6_readCells_4 (by repeat (first | assumption | refine wset_ne (by decide) ?_ | exact wset_lt (by (try simp only [List.length_set]); exact wsome (by assumption)))) (by rfl) ?_
      refine j_icmp_geN (tgt := 68) iX6_readCells_7 (by decide) (by omega) (by omega) (fun hno => by exfalso; omega) (fun _ => ?_)
      refine j_aload_n iX6_readCells_10 rfl ?_
      refine j_iload_n iX6_readCells_11 rfl ?_
      refine j_iload_n iX6_readCells_12 rfl ?_
      refine j_iaddN iX6_readCells_13  ?_
      refine j_V1R okX6_at lk_X6_79 iX6_readCells_14 (by omega) (by repeat (first | assumption | refine wset_ne (by decide) ?_ | exact wset_lt (by (try simp only [List.length_set]); exact wsome (by assumption)))) rfl (m_at ((by repeat (first | assumption | refine wset_ne (by decide) ?_ | exact wset_lt (by (try simp only [List.length_set]); exact wsome (by assumption)))) : _ = some (oM bd R C fr lp lps sn sz wh (N) (fold (freeStep pg) j 0 0) nl tl sd ik kb kf kl kn hh)) (by repeat (first | assumption | refine wset_ne (by decide) ?_ | exact wset_lt (by (try simp only [List.length_set]); exact wsome (by assumption)))) hsz (3 + j) (by omega)) rfl (Nat.le_of_ble_eq_true rfl) (Nat.le_of_ble_eq_true rfl) ?_
      refine j_bipush (v := nI 46) iX6_readCells_17 (by decide) ?_
      refine j_icmp_eqN (tgt := 34) iX6_readCells_19 (by decide) (by omega) (by omega) (fun h19 => ?_) (fun h19 => ?_)
      · refine j_aload_n iX6_readCells_34 rfl ?_
        refine j_dup iX6_readCells_35 rfl ?_
        refine j_get fk_X6_83 iX6_readCells_36 (by repeat (first | assumption | refine wset_ne (by decide) ?_ | exact wset_lt (by (try simp only [List.length_set]); exact wsome (by assumption)))) (by rfl) ?_
        refine j_aload_n iX6_readCells_39 rfl ?_
        refine j_iload_n iX6_readCells_40 rfl ?_
        refine j_iload_n iX6_readCells_41 rfl ?_
        refine j_iaddN iX6_readCells_42  ?_
        refine j_V1R okX6_at lk_X6_79 iX6_readCells_43 (by omega) (by repeat (first | assumption | refine wset_ne (by decide) ?_ | exact wset_lt (by (try simp only [List.length_set]); exact wsome (by assumption)))) rfl (m_at ((by repeat (first | assumption | refine wset_ne (by decide) ?_ | exact wset_lt (by (try simp only [List.length_set]); exact wsome (by assumption)))) : _ = some (oM bd R C fr lp lps sn sz wh (N) (fold (freeStep pg) j 0 0) nl tl sd ik kb kf kl kn hh)) (by repeat (first | assumption | refine wset_ne (by decide) ?_ | exact wset_lt (by (try simp only [List.length_set]); exact wsome (by assumption)))) hsz (3 + j) (by omega)) rfl (Nat.le_of_ble_eq_true rfl) (Nat.le_of_ble_eq_true rfl) ?_
        refine j_bipush (v := nI 46) iX6_readCells_46 (by decide) ?_
        refine j_icmp_neN (tgt := 57) iX6_readCells_48 (by decide) (by omega) (by omega) (fun h48 => ?_) (fun h48 => ?_)
        · refine j_iconst (v := nI 0) iX6_readCells_57 (by decide) ?_
          refine j_iorN iX6_readCells_58  ?_
          refine j_put fk_X6_83 iX6_readCells_59 (by repeat (first | assumption | refine wset_ne (by decide) ?_ | exact wset_lt (by (try simp only [List.length_set]); exact wsome (by assumption)))) (by intro; rfl) (by intro; rfl) (Nat.le_of_ble_eq_true rfl) ?_
          dsimp only [List.set]
          refine j_iincN iX6_readCells_62 rfl (by decide) rfl ?_
          dsimp only [List.set]
          refine j_goto (tgt := 2) iX6_readCells_65 (by decide) ?_
          rw [wset2]; first | (exfalso; omega) | exact K _ (Or.inl h19) (by unfold freeStep; rw [if_pos ((good (Or.inl h19)).2.trans h19)]) | exact K _ (Or.inr h31) (by unfold freeStep; rw [if_neg (fun z => by have := (good (Or.inr h31)).2; omega), Nat.or_zero])
        · refine j_iconst (v := nI 1) iX6_readCells_51 (by decide) ?_
          refine j_iload_n iX6_readCells_52 rfl ?_
          refine j_ishlN iX6_readCells_53 (by omega) ?_
          refine j_goto (tgt := 58) iX6_readCells_54 (by decide) ?_
          refine j_iorN iX6_readCells_58  ?_
          refine j_put fk_X6_83 iX6_readCells_59 (by repeat (first | assumption | refine wset_ne (by decide) ?_ | exact wset_lt (by (try simp only [List.length_set]); exact wsome (by assumption)))) (by intro; rfl) (by intro; rfl) (Nat.le_of_ble_eq_true rfl) ?_
          dsimp only [List.set]
          refine j_iincN iX6_readCells_62 rfl (by decide) rfl ?_
          dsimp only [List.set]
          refine j_goto (tgt := 2) iX6_readCells_65 (by decide) ?_
          rw [wset2]; first | (exfalso; omega) | exact K _ (Or.inl h19) (by unfold freeStep; rw [if_pos ((good (Or.inl h19)).2.trans h19)]) | exact K _ (Or.inr h31) (by unfold freeStep; rw [if_neg (fun z => by have := (good (Or.inr h31)).2; omega), Nat.or_zero])
      · refine j_aload_n iX6_readCells_22 rfl ?_
        refine j_iload_n iX6_readCells_23 rfl ?_
        refine j_iload_n iX6_readCells_24 rfl ?_
        refine j_iaddN iX6_readCells_25  ?_
        refine j_V1R okX6_at lk_X6_79 iX6_readCells_26 (by omega) (by repeat (first | assumption | refine wset_ne (by decide) ?_ | exact wset_lt (by (try simp only [List.length_set]); exact wsome (by assumption)))) rfl (m_at ((by repeat (first | assumption | refine wset_ne (by decide) ?_ | exact wset_lt (by (try simp only [List.length_set]); exact wsome (by assumption)))) : _ = some (oM bd R C fr lp lps sn sz wh (N) (fold (freeStep pg) j 0 0) nl tl sd ik kb kf kl kn hh)) (by repeat (first | assumption | refine wset_ne (by decide) ?_ | exact wset_lt (by (try simp only [List.length_set]); exact wsome (by assumption)))) hsz (3 + j) (by omega)) rfl (Nat.le_of_ble_eq_true rfl) (Nat.le_of_ble_eq_true rfl) ?_
        refine j_bipush (v := nI 35) iX6_readCells_29 (by decide) ?_
        refine j_icmp_neN (tgt := 68) iX6_readCells_31 (by decide) (by omega) (by omega) (fun h31 => ?_) (fun h31 => ?_)
        · refine j_iload_n iX6_readCells_68 rfl ?_
          refine j_iload_n iX6_readCells_69 rfl ?_
          refine j_iaddN iX6_readCells_70  ?_
          refine j_iret iX6_readCells_71 rfl (by first | rfl | exact nar_bI _ | exact nar_bP) (⟨j, by omega, h1, h2, fun _ z => z.elim h19 h31, rfl, rfl⟩)
        · refine j_aload_n iX6_readCells_34 rfl ?_
          refine j_dup iX6_readCells_35 rfl ?_
          refine j_get fk_X6_83 iX6_readCells_36 (by repeat (first | assumption | refine wset_ne (by decide) ?_ | exact wset_lt (by (try simp only [List.length_set]); exact wsome (by assumption)))) (by rfl) ?_
          refine j_aload_n iX6_readCells_39 rfl ?_
          refine j_iload_n iX6_readCells_40 rfl ?_
          refine j_iload_n iX6_readCells_41 rfl ?_
          refine j_iaddN iX6_readCells_42  ?_
          refine j_V1R okX6_at lk_X6_79 iX6_readCells_43 (by omega) (by repeat (first | assumption | refine wset_ne (by decide) ?_ | exact wset_lt (by (try simp only [List.length_set]); exact wsome (by assumption)))) rfl (m_at ((by repeat (first | assumption | refine wset_ne (by decide) ?_ | exact wset_lt (by (try simp only [List.length_set]); exact wsome (by assumption)))) : _ = some (oM bd R C fr lp lps sn sz wh (N) (fold (freeStep pg) j 0 0) nl tl sd ik kb kf kl kn hh)) (by repeat (first | assumption | refine wset_ne (by decide) ?_ | exact wset_lt (by (try simp only [List.length_set]); exact wsome (by assumption)))) hsz (3 + j) (by omega)) rfl (Nat.le_of_ble_eq_true rfl) (Nat.le_of_ble_eq_true rfl) ?_
          refine j_bipush (v := nI 46) iX6_readCells_46 (by decide) ?_
          refine j_icmp_neN (tgt := 57) iX6_readCells_48 (by decide) (by omega) (by omega) (fun h48 => ?_) (fun h48 => ?_)
          · refine j_iconst (v := nI 0) iX6_readCells_57 (by decide) ?_
            refine j_iorN iX6_readCells_58  ?_
            refine j_put fk_X6_83 iX6_readCells_59 (by repeat (first | assumption | refine wset_ne (by decide) ?_ | exact wset_lt (by (try simp only [List.length_set]); exact wsome (by assumption)))) (by intro; rfl) (by intro; rfl) (Nat.le_of_ble_eq_true rfl) ?_
            dsimp only [List.set]
            refine j_iincN iX6_readCells_62 rfl (by decide) rfl ?_
            dsimp only [List.set]
            refine j_goto (tgt := 2) iX6_readCells_65 (by decide) ?_
            rw [wset2]; first | (exfalso; omega) | exact K _ (Or.inl h19) (by unfold freeStep; rw [if_pos ((good (Or.inl h19)).2.trans h19)]) | exact K _ (Or.inr h31) (by unfold freeStep; rw [if_neg (fun z => by have := (good (Or.inr h31)).2; omega), Nat.or_zero])
          · refine j_iconst (v := nI 1) iX6_readCells_51 (by decide) ?_
            refine j_iload_n iX6_readCells_52 rfl ?_
            refine j_ishlN iX6_readCells_53 (by omega) ?_
            refine j_goto (tgt := 58) iX6_readCells_54 (by decide) ?_
            refine j_iorN iX6_readCells_58  ?_
            refine j_put fk_X6_83 iX6_readCells_59 (by repeat (first | assumption | refine wset_ne (by decide) ?_ | exact wset_lt (by (try simp only [List.length_set]); exact wsome (by assumption)))) (by intro; rfl) (by intro; rfl) (Nat.le_of_ble_eq_true rfl) ?_
            dsimp only [List.set]
            refine j_iincN iX6_readCells_62 rfl (by decide) rfl ?_
            dsimp only [List.set]
            refine j_goto (tgt := 2) iX6_readCells_65 (by decide) ?_
            rw [wset2]; first | (exfalso; omega) | exact K _ (Or.inl h19) (by unfold freeStep; rw [if_pos ((good (Or.inl h19)).2.trans h19)]) | exact K _ (Or.inr h31) (by unfold freeStep; rw [if_neg (fun z => by have := (good (Or.inr h31)).2; omega), Nat.or_zero])
  refine j_start (ls := [.ref 33, .int (nI 3), .null]) rfl ?_
  have h0 := L N 0 (by omega) (by omega) (fun c hc => absurd hc (Nat.not_lt_zero _))
  rw [show fold (freeStep pg) 0 0 0 = 0 from rfl, wset_eq hm] at h0
  refine j_iconst (v := nI 0) iX6_readCells_0 (by decide) ?_
  refine j_istore_n iX6_readCells_1 (by decide) rfl ?_
  dsimp only [List.set]
  exact h0
theorem free_tb {N b : Nat} : (freeF pg N).testBit b = true ↔ b < N ∧ pg (3 + b) = 46 := by
  unfold freeF
  rw [fold_congr N 0 0 (g := fun c r => if decide (pg (3 + c) = 46) = true then r ||| 2 ^ c else r) (fun c r _ _ => by unfold freeStep; by_cases h : pg (3 + c) = 46; (rw [if_pos h, if_pos (decide_eq_true h)]); (rw [if_neg h, if_neg (fun z => h (of_decide_eq_true z))])), foldIf_tb, Nat.zero_testBit]
  constructor
  · rintro (h | ⟨c, h1, h2, h3, h4⟩)
    · cases h
    · have e := pw_tb.mp h4; subst e; exact ⟨by omega, of_decide_eq_true h3⟩
  · rintro ⟨h1, h2⟩
    exact Or.inr ⟨b, Nat.zero_le _, by omega, decide_eq_true h2, pw_tb.mpr rfl⟩
theorem free_b {N : Nat} (hN : N ≤ 12) : freeF pg N < 4096 := Nat.lt_pow_two_of_testBit (n := 12) _ fun i hi => by
  cases e : (freeF pg N).testBit i with
  | false => rfl
  | true => have := (free_tb.mp e).1; omega
theorem sub97 : ∀ a, a < 97 → (nI a - nI 97 < nI 0) := by decide
theorem wi_low {a : Nat} {hi : Int32} (h : ¬ 97 ≤ a) : wi (nI a - nI 97) (nI 0) hi = false := by
  exact decide_eq_false (fun z : ¬ (nI a - nI 97 < nI 0) ∧ ¬ (hi < nI a - nI 97) => z.1 (sub97 a (by omega)))
theorem m_readLeapers {N : Nat} (hN : N = nF pg) (hN2 : 4 ≤ N ∧ N ≤ 12) (hm : w[33]? = some (oM bd R C fr lp lps sn sz (false) (N) (freeF pg N) (0) tl sd ik kb kf kl kn hh)) (h40 : w[40]? = some (pB pg)) (hsz : sz ≤ 30) (hpg : ∀ i, pg i < 127) (h4 : 4 + N ≤ sz) (hfit : ∀ q, q < 4 + N → fitsF pg N q = true) :
    JX 1 mX6_readLeapers [.ref 33, .int (nI (4 + N))] w (fun v u => v = some (.int (nI (faultF pg sz))) ∧ ∃ wh' nl', u = w.set 33 (oM bd R C fr lp lps sn sz (wh') (N) (freeF pg N) (nl') tl sd ik kb kf kl kn hh) ∧ wh' = wholeF pg sz ∧ (wholeF pg sz = true → nl' = lpF pg sz)) := by
  have L : ∀ (n l left : Nat), l + n = 4 → 4 + N + 3 * l ≤ sz → (∀ q, q < 4 + N + 3 * l → fitsF pg N q = true) → left < 4096 → (∀ c, left.testBit c = true ↔ (c < N ∧ pg (3 + c) = 46) ∧ ∀ i, i < l → pg (4 + N + 3 * i + 1) ≠ 97 + c) → (n = 0 → False) →
      ∀ x4 : Value, J 1 mX6_readLeapers 7 [.ref 33, .int (nI (4 + N)), .int (nI left), .int (nI (4 + N + 3 * l)), .null] [] (w.set 33 (oM bd R C fr lp lps sn sz (false) (N) (freeF pg N) (l) tl sd ik kb kf kl kn hh)) (fun v u => v = some (.int (nI (faultF pg sz))) ∧ ∃ wh' nl', u = w.set 33 (oM bd R C fr lp lps sn sz (wh') (N) (freeF pg N) (nl') tl sd ik kb kf kl kn hh) ∧ wh' = wholeF pg sz ∧ (wholeF pg sz = true → nl' = lpF pg sz)) := by
    intro n
    induction n with
    | zero => intro l left _ _ _ _ _ z; exact absurd rfl z
    | succ n ih =>
      intro l left hl hk hq hlb hlt _ x4
      have hat : ∀ k, atM pg sz k < 127 := fun k => by unfold atM; split; exact hpg _; decide
      have f0 : fitsF pg N (4 + N + 3 * l) = (kindIx (pg (4 + N + 3 * l))).isSome := by rw [fits_tail (by omega), if_pos (by omega)]
      have f1 : fitsF pg N (4 + N + 3 * l + 1) = openF pg N l := by rw [fits_tail (by omega), if_neg (by omega), if_pos (by omega), show (4 + N + 3 * l + 1 - (4 + N)) / 3 = l by omega]
      have f2 : fitsF pg N (4 + N + 3 * l + 2) = decide (pg (4 + N + 3 * l + 2) = 44 ∧ l < 3) := by rw [fits_tail (by omega), if_neg (by omega), if_neg (by omega), show (4 + N + 3 * l + 2 - (4 + N)) / 3 = l by omega]
      cases hk0 : kindIx (atM pg sz (4 + N + 3 * l)) with
      | none =>
        have hfa : faultF pg sz = 4 + N + 3 * l := fault_of (by rw [← hN]; exact hq) hk (fun z => by rw [← hN, f0, ← atM_lt (pg := pg) z, hk0]; rfl)
        have hwf : wholeF pg sz = false := by
          by_cases e : faultF pg sz = sz
          · exact whole_f2 (fun z => by rw [← hN] at z; omega)
          · exact whole_f1 e
        refine j_aload_n iX6_readLeapers_7 rfl ?_
        refine j_get fk_X6_86 iX6_readLeapers_8 (by repeat (first | assumption | refine wset_ne (by decide) ?_ | exact wset_lt (by (try simp only [List.length_set]); exact wsome (by assumption)))) (by rfl) ?_
        refine j_iconst (v := nI 4) iX6_readLeapers_11 (by decide) ?_
        refine j_icmp_geN (tgt := 134) iX6_readLeapers_12 (by decide) (by omega) (by omega) (fun hno => by exfalso; omega) (fun _ => ?_)
        refine j_aload_n iX6_readLeapers_15 rfl ?_
        refine j_iload_n iX6_readLeapers_16 rfl ?_
        refine j_V1R okX6_at lk_X6_79 iX6_readLeapers_17 (by omega) (by repeat (first | assumption | refine wset_ne (by decide) ?_ | exact wset_lt (by (try simp only [List.length_set]); exact wsome (by assumption)))) rfl (m_at ((by repeat (first | assumption | refine wset_ne (by decide) ?_ | exact wset_lt (by (try simp only [List.length_set]); exact wsome (by assumption)))) : _ = some (oM bd R C fr lp lps sn sz (false) (N) (freeF pg N) (l) tl sd ik kb kf kl kn hh)) (by repeat (first | assumption | refine wset_ne (by decide) ?_ | exact wset_lt (by (try simp only [List.length_set]); exact wsome (by assumption)))) hsz _ (by omega)) rfl (Nat.le_of_ble_eq_true rfl) (Nat.le_of_ble_eq_true rfl) ?_
        refine j_S1R okX6_kindBy lk_X6_89 iX6_readLeapers_20 (by omega) (m_kindBy _ (hat _)) rfl (Nat.le_of_ble_eq_true rfl) (Nat.le_of_ble_eq_true rfl) ?_
        rw [hk0]
        refine j_iconst (v := (-1)) iX6_readLeapers_23 (by decide) ?_
        refine j_icmp_ne (tgt := 29) iX6_readLeapers_24 (by decide) (fun hno => by first | exact absurd hno (rfl) | exact absurd (rfl) hno) (fun _ => ?_)
        refine j_iload_n iX6_readLeapers_27 rfl ?_
        refine j_iret iX6_readLeapers_28 rfl (by first | rfl | exact nar_bI _ | exact nar_bP) (⟨by rw [hfa], false, l, rfl, hwf.symm, fun z => by rw [hwf] at z; cases z⟩)
      | some kd =>
        have hk1 : 4 + N + 3 * l < sz := by
          apply Nat.lt_of_not_le; intro z
          rw [atM_ge z] at hk0; rw [show kindIx 0 = none by decide] at hk0; cases hk0
        have hkd := kindIx_lt hk0
        have hfit0 : fitsF pg N (4 + N + 3 * l) = true := by rw [f0, ← atM_lt (pg := pg) hk1, hk0]; rfl
        have hkd1 : oN (some kd) ≠ -1 := fun z => by
          have := congrArg Int32.toInt z
          simp only [oN] at this
          rw [nI_toInt (by omega)] at this
          have e : (-1 : Int32).toInt = -1 := by decide
          rw [e] at this
          omega
        -- the cell's letter
        have hbad : (4 + N + 3 * l + 1 < sz → openF pg N l = false) → faultF pg sz = 4 + N + 3 * l + 1 ∧ wholeF pg sz = false := fun z => by
          have hfa : faultF pg sz = 4 + N + 3 * l + 1 := fault_of (by rw [← hN]; intro q hq2; rcases Nat.lt_succ_iff_lt_or_eq.mp hq2 with y | y; exact hq q y; rw [y]; exact hfit0) (by omega) (fun y => by rw [← hN, f1]; exact z y)
          refine ⟨hfa, ?_⟩
          by_cases e : faultF pg sz = sz
          · exact whole_f2 (fun z => by rw [← hN] at z; omega)
          · exact whole_f1 e
        have hop : 4 + N + 3 * l + 1 < sz → (openF pg N l = true ↔ 97 ≤ pg (4 + N + 3 * l + 1) ∧ pg (4 + N + 3 * l + 1) - 97 < N ∧ left.testBit (pg (4 + N + 3 * l + 1) - 97) = true) := fun z => by
          unfold openF
          constructor
          · intro h
            split at h
            · rename_i hc
              rw [openFrom_iff] at h
              exact ⟨hc.1, by omega, (hlt _).mpr ⟨⟨by omega, hc.2.2⟩, fun i hi => by rw [show 97 + (pg (4 + N + 3 * l + 1) - 97) = pg (4 + N + 3 * l + 1) by omega]; exact h i (Nat.zero_le _) (by omega)⟩⟩
            · cases h
          · rintro ⟨h1, h2, h3⟩
            have h4 := (hlt _).mp h3
            rw [if_pos ⟨h1, by omega, h4.1.2⟩, openFrom_iff]
            intro i _ hi
            have := h4.2 i (by omega)
            rw [show 97 + (pg (4 + N + 3 * l + 1) - 97) = pg (4 + N + 3 * l + 1) by omega] at this
            exact this
        by_cases hlo : 97 ≤ atM pg sz (4 + N + 3 * l + 1)
        · have hk2 : 4 + N + 3 * l + 1 < sz := by
            apply Nat.lt_of_not_le; intro z
            rw [atM_ge z] at hlo; omega
          have ea : atM pg sz (4 + N + 3 * l + 1) = pg (4 + N + 3 * l + 1) := atM_lt hk2
          rw [ea] at hlo
          have hpb := hpg (4 + N + 3 * l + 1)
          have eN : nI N - nI 1 = nI (N - 1) := pk_sub (by omega)
          by_cases hin : pg (4 + N + 3 * l + 1) - 97 < N
          · by_cases hle : left.testBit (pg (4 + N + 3 * l + 1) - 97) = true
            · have hoT := (hop hk2).mpr ⟨hlo, hin, hle⟩
              have hfit1 : fitsF pg N (4 + N + 3 * l + 1) = true := by rw [f1]; exact hoT
              have hq2 : ∀ q, q < 4 + N + 3 * l + 2 → fitsF pg N q = true := fun q h => by
                by_cases e1 : q < 4 + N + 3 * l
                · exact hq q e1
                · by_cases e2 : q = 4 + N + 3 * l
                  · rw [e2]; exact hfit0
                  · rw [show q = 4 + N + 3 * l + 1 by omega]; exact hfit1
              have hend : (4 + N + 3 * l + 2 < sz → fitsF pg N (4 + N + 3 * l + 2) = false) → faultF pg sz = 4 + N + 3 * l + 2 := fun z => fault_of (by rw [← hN]; exact hq2) (by omega) (by rw [← hN]; exact z)
              have hwh : (4 + N + 3 * l + 2 < sz → fitsF pg N (4 + N + 3 * l + 2) = false) → decide (4 + N + 3 * l + 2 = sz) = wholeF pg sz := fun z => by
                have hf := hend z
                unfold wholeF
                apply decide_eq_decide.mpr
                rw [hf, ← hN]
                constructor
                · intro e; exact ⟨e, by omega, by omega, by omega⟩
                · intro e; exact e.1
              have hlpf : 4 + N + 3 * l + 2 = sz → lpF pg sz = l + 1 := fun e => by unfold lpF; rw [← hN]; omega
              have hW : ∀ b : Bool, b = decide (4 + N + 3 * l + 2 = sz) → (4 + N + 3 * l + 2 < sz → fitsF pg N (4 + N + 3 * l + 2) = false) → (some (Value.int (nI (4 + N + 3 * l + 2))) = some (.int (nI (faultF pg sz))) ∧ ∃ wh' nl', (w.set 33 (oM bd R C fr lp lps sn sz (b) (N) (freeF pg N) (l + 1) tl sd ik kb kf kl kn hh)) = w.set 33 (oM bd R C fr lp lps sn sz (wh') (N) (freeF pg N) (nl') tl sd ik kb kf kl kn hh) ∧ wh' = wholeF pg sz ∧ (wholeF pg sz = true → nl' = lpF pg sz)) := fun b hb z =>
                ⟨by rw [hend z], b, l + 1, rfl, by rw [hb]; exact hwh z, fun y => by rw [← hwh z] at y; exact (hlpf (of_decide_eq_true y)).symm⟩
              have hnext : atM pg sz (4 + N + 3 * l + 2) = 44 → l + 1 ≠ 4 → J 1 mX6_readLeapers 7 [.ref 33, .int (nI (4 + N)), .int (nI (ad left (2 ^ (pg (4 + N + 3 * l + 1) - 97)))), .int (nI (4 + N + 3 * l + 2 + 1)), .null] [] (w.set 33 (oM bd R C fr lp lps sn sz (false) (N) (freeF pg N) (l + 1) tl sd ik kb kf kl kn hh)) (fun v u => v = some (.int (nI (faultF pg sz))) ∧ ∃ wh' nl', u = w.set 33 (oM bd R C fr lp lps sn sz (wh') (N) (freeF pg N) (nl') tl sd ik kb kf kl kn hh) ∧ wh' = wholeF pg sz ∧ (wholeF pg sz = true → nl' = lpF pg sz)) := fun z z4 => by
                have hk3 : 4 + N + 3 * l + 2 < sz := by
                  apply Nat.lt_of_not_le; intro y
                  rw [atM_ge y] at z; omega
                have hf2 : fitsF pg N (4 + N + 3 * l + 2) = true := by rw [f2, ← atM_lt (pg := pg) hk3, z]; exact decide_eq_true ⟨rfl, by omega⟩
                have e := ih (l + 1) (ad left (2 ^ (pg (4 + N + 3 * l + 1) - 97))) (by omega) (by omega) (fun q h => by
                  by_cases e2 : q = 4 + N + 3 * l + 2
                  · rw [e2]; exact hf2
                  · exact hq2 q (by omega)) (ad_b hlb) (fun c => by
                  rw [ad_tbP, pw_tb, hlt]
                  constructor
                  · rintro ⟨⟨h1, h2⟩, h3⟩
                    refine ⟨h1, fun i hi => ?_⟩
                    by_cases ei : i = l
                    · rw [ei]; omega
                    · exact h2 i (by omega)
                  · rintro ⟨h1, h2⟩
                    refine ⟨⟨h1, fun i hi => h2 i (by omega)⟩, fun h3 => ?_⟩
                    have := h2 l (by omega)
                    omega) (by omega) .null
                rw [show 4 + N + 3 * (l + 1) = 4 + N + 3 * l + 2 + 1 by omega] at e
                exact e
              have hA : ∀ b : Bool, JR 0 mX6_at [.ref 33, .int (nI (4 + N + 3 * l + 2))] (w.set 33 (oM bd R C fr lp lps sn sz (b) (N) (freeF pg N) (l + 1) tl sd ik kb kf kl kn hh)) (.int (nI (atM pg sz (4 + N + 3 * l + 2)))) (w.set 33 (oM bd R C fr lp lps sn sz (b) (N) (freeF pg N) (l + 1) tl sd ik kb kf kl kn hh)) := fun b => m_at (wset_lt (wsome hm)) (wset_ne (by decide) h40) hsz _ (by omega)
              by_cases h97 : 4 + N + 3 * l + 2 = sz
              · -- the page ends here
                refine j_aload_n iX6_readLeapers_7 rfl ?_
                refine j_get fk_X6_86 iX6_readLeapers_8 (wset_lt (by (try simp only [List.length_set]); exact wsome hm)) (by rfl) ?_
                refine j_iconst (v := nI 4) iX6_readLeapers_11 (by decide) ?_
                refine j_icmp_geN (tgt := 134) iX6_readLeapers_12 (by decide) (by omega) (by omega) (fun hno => by exfalso; omega) (fun _ => ?_)
                refine j_aload_n iX6_readLeapers_15 rfl ?_
                refine j_iload_n iX6_readLeapers_16 rfl ?_
                refine j_V1R okX6_at lk_X6_79 iX6_readLeapers_17 (by omega) (wset_lt (by (try simp only [List.length_set]); exact wsome hm)) rfl (m_at ((by repeat (first | assumption | refine wset_ne (by decide) ?_ | exact wset_lt (by (try simp only [List.length_set]); exact wsome (by assumption)))) : _ = some (oM bd R C fr lp lps sn sz (false) (N) (freeF pg N) (l) tl sd ik kb kf kl kn hh)) (by repeat (first | assumption | refine wset_ne (by decide) ?_ | exact wset_lt (by (try simp only [List.length_set]); exact wsome (by assumption)))) hsz _ (by omega)) rfl (Nat.le_of_ble_eq_true rfl) (Nat.le_of_ble_eq_true rfl) ?_
                refine j_S1R okX6_kindBy lk_X6_89 iX6_readLeapers_20 (by omega) (m_kindBy _ (hat _)) rfl (Nat.le_of_ble_eq_true rfl) (Nat.le_of_ble_eq_true rfl) ?_
                rw [hk0]
                refine j_iconst (v := (-1)) iX6_readLeapers_23 (by decide) ?_
                refine j_icmp_ne (tgt := 29) iX6_readLeapers_24 (by decide) (fun _ => ?_) (fun hno => by first | exact absurd hno (hkd1) | exact absurd (hkd1) hno)
                refine j_aload_n iX6_readLeapers_29 rfl ?_
                refine j_iload_n iX6_readLeapers_30 rfl ?_
                refine j_iconst (v := nI 1) iX6_readLeapers_31 (by decide) ?_
                refine j_iaddN iX6_readLeapers_32  ?_
                refine j_V1R okX6_at lk_X6_79 iX6_readLeapers_33 (by omega) (wset_lt (by (try simp only [List.length_set]); exact wsome hm)) rfl (m_at ((by repeat (first | assumption | refine wset_ne (by decide) ?_ | exact wset_lt (by (try simp only [List.length_set]); exact wsome (by assumption)))) : _ = some (oM bd R C fr lp lps sn sz (false) (N) (freeF pg N) (l) tl sd ik kb kf kl kn hh)) (by repeat (first | assumption | refine wset_ne (by decide) ?_ | exact wset_lt (by (try simp only [List.length_set]); exact wsome (by assumption)))) hsz _ (by omega)) rfl (Nat.le_of_ble_eq_true rfl) (Nat.le_of_ble_eq_true rfl) ?_
                rw [ea]
                refine j_bipush (v := nI 97) iX6_readLeapers_36 (by decide) ?_
                refine j_isubN iX6_readLeapers_38 (by omega) ?_
                refine j_istore iX6_readLeapers_39 (by decide) rfl ?_
                dsimp only [List.set]
                refine j_iload iX6_readLeapers_41 rfl ?_
                refine j_iconst (v := nI 0) iX6_readLeapers_43 (by decide) ?_
                refine j_aload_n iX6_readLeapers_44 rfl ?_
                refine j_get fk_X6_76 iX6_readLeapers_45 (wset_lt (by (try simp only [List.length_set]); exact wsome hm)) (by rfl) ?_
                refine j_iconst (v := nI 1) iX6_readLeapers_48 (by decide) ?_
                refine j_isubN iX6_readLeapers_49 (by omega) ?_
                refine j_S3R okX6_within lk_X6_68 iX6_readLeapers_50 (by omega) (m_within _ _ _) rfl (Nat.le_of_ble_eq_true rfl) (Nat.le_of_ble_eq_true rfl) ?_
                refine j_if_eqB (tgt := 65) iX6_readLeapers_53 (by decide) (fun hno => Bool.noConfusion (hno.symm.trans (show _ = true from by rw [wi_N (by omega) (by decide) (by omega)]; exact decide_eq_true ⟨Nat.zero_le _, by omega⟩))) (fun _ => ?_)
                refine j_iload_n iX6_readLeapers_56 rfl ?_
                refine j_iload iX6_readLeapers_57 rfl ?_
                refine j_S2R okX6_isIn lk_X6_92 iX6_readLeapers_59 (by omega) (m_isIn left _ (by omega) (by omega)) rfl (Nat.le_of_ble_eq_true rfl) (Nat.le_of_ble_eq_true rfl) ?_
                refine j_if_neB (tgt := 69) iX6_readLeapers_62 (by decide) (fun _ => ?_) (fun hno => Bool.noConfusion (hno.symm.trans (show _ = true from hle)))
                refine j_iload_n iX6_readLeapers_69 rfl ?_
                refine j_iconst (v := nI 1) iX6_readLeapers_70 (by decide) ?_
                refine j_iload iX6_readLeapers_71 rfl ?_
                refine j_ishlN iX6_readLeapers_73 (by omega) ?_
                refine j_iconst (v := (-1)) iX6_readLeapers_74 (by decide) ?_
                refine j_ixor iX6_readLeapers_75 ?_
                refine j_iandnN iX6_readLeapers_76 ?_
                refine j_istore_n iX6_readLeapers_77 (by decide) rfl ?_
                dsimp only [List.set]
                refine j_aload_n iX6_readLeapers_78 rfl ?_
                refine j_dup iX6_readLeapers_79 rfl ?_
                refine j_get fk_X6_86 iX6_readLeapers_80 (wset_lt (by (try simp only [List.length_set]); exact wsome hm)) (by rfl) ?_
                refine j_iconst (v := nI 1) iX6_readLeapers_83 (by decide) ?_
                refine j_iaddN iX6_readLeapers_84  ?_
                refine j_put fk_X6_86 iX6_readLeapers_85 (wset_lt (by (try simp only [List.length_set]); exact wsome hm)) (by intro; rfl) (by intro; rfl) (Nat.le_of_ble_eq_true rfl) ?_
                dsimp only [List.set]
                refine j_iinc (v := 2) iX6_readLeapers_88 rfl (by decide) (by decide) rfl ?_
                dsimp only [List.set]
                refine j_loc (ls' := [.ref 33, .int (nI (4 + N)), .int (nI (ad left (2 ^ (pg (4 + N + 3 * l + 1) - 97)))), .int (nI (4 + N + 3 * l + 2)), .int (nI (pg (4 + N + 3 * l + 1) - 97))]) (by rw [show (nI (4 + N + 3 * l) + 2 : Int32) = nI (4 + N + 3 * l + 2) from nI_add _ 2]) ?_
                refine j_aload_n iX6_readLeapers_91 rfl ?_
                refine j_iload_n iX6_readLeapers_92 rfl ?_
                refine j_aload_n iX6_readLeapers_93 rfl ?_
                refine j_get fk_X6_72 iX6_readLeapers_94 (wset_lt (by (try simp only [List.length_set]); exact wsome hm)) (by rfl) ?_
                refine j_icmp_neN (tgt := 104) iX6_readLeapers_97 (by decide) (by omega) (by omega) (fun hno => by exfalso; omega) (fun _ => ?_)
                refine j_iconst (v := nI 1) iX6_readLeapers_100 (by decide) ?_
                refine j_goto (tgt := 105) iX6_readLeapers_101 (by decide) ?_
                refine j_put fk_X6_96 iX6_readLeapers_105 (wset_lt (by (try simp only [List.length_set]); exact wsome hm)) (by intro; rfl) (by intro; rfl) (Nat.le_of_ble_eq_true rfl) ?_
                dsimp only [List.set]
                refine j_aload_n iX6_readLeapers_108 rfl ?_
                refine j_get fk_X6_86 iX6_readLeapers_109 (wset_lt (by (try simp only [List.length_set]); exact wsome hm)) (by rfl) ?_
                refine j_iconst (v := nI 4) iX6_readLeapers_112 (by decide) ?_
                refine j_icmp_eqN (tgt := 126) iX6_readLeapers_113 (by decide) (by omega) (by omega) (fun h113 => ?_) (fun h113 => ?_)
                · try rw [wset2, wset2]
                  refine j_iload_n iX6_readLeapers_126 rfl ?_
                  refine j_iret iX6_readLeapers_127 rfl (by first | rfl | exact nar_bI _ | exact nar_bP) (hW true (decide_eq_true h97).symm (fun z => (by omega)))
                · refine j_aload_n iX6_readLeapers_116 rfl ?_
                  refine j_iload_n iX6_readLeapers_117 rfl ?_
                  have hb118 := hat (4 + N + 3 * l + 2)
                  rw [wset2, wset2]
                  refine j_V1R okX6_at lk_X6_79 iX6_readLeapers_118 (by omega) (wset_lt (by (try simp only [List.length_set]); exact wsome hm)) rfl ((hA true)) rfl (Nat.le_of_ble_eq_true rfl) (Nat.le_of_ble_eq_true rfl) ?_
                  refine j_bipush (v := nI 44) iX6_readLeapers_121 (by decide) ?_
                  refine j_icmp_eqN (tgt := 128) iX6_readLeapers_123 (by decide) (by omega) (by omega) (fun h123 => ?_) (fun h123 => ?_)
                  · refine j_iincN iX6_readLeapers_128 rfl (by decide) rfl ?_
                    dsimp only [List.set]
                    refine j_goto (tgt := 7) iX6_readLeapers_131 (by decide) ?_
                    exfalso; have y := h123; rw [atM_ge (by omega)] at y; omega
                  · try rw [wset2, wset2]
                    refine j_iload_n iX6_readLeapers_126 rfl ?_
                    refine j_iret iX6_readLeapers_127 rfl (by first | rfl | exact nar_bI _ | exact nar_bP) (hW true (decide_eq_true h97).symm (fun z => (by omega)))
              · -- it goes on
                refine j_aload_n iX6_readLeapers_7 rfl ?_
                refine j_get fk_X6_86 iX6_readLeapers_8 (wset_lt (by (try simp only [List.length_set]); exact wsome hm)) (by rfl) ?_
                refine j_iconst (v := nI 4) iX6_readLeapers_11 (by decide) ?_
                refine j_icmp_geN (tgt := 134) iX6_readLeapers_12 (by decide) (by omega) (by omega) (fun hno => by exfalso; omega) (fun _ => ?_)
                refine j_aload_n iX6_readLeapers_15 rfl ?_
                refine j_iload_n iX6_readLeapers_16 rfl ?_
                refine j_V1R okX6_at lk_X6_79 iX6_readLeapers_17 (by omega) (wset_lt (by (try simp only [List.length_set]); exact wsome hm)) rfl (m_at ((by repeat (first | assumption | refine wset_ne (by decide) ?_ | exact wset_lt (by (try simp only [List.length_set]); exact wsome (by assumption)))) : _ = some (oM bd R C fr lp lps sn sz (false) (N) (freeF pg N) (l) tl sd ik kb kf kl kn hh)) (by repeat (first | assumption | refine wset_ne (by decide) ?_ | exact wset_lt (by (try simp only [List.length_set]); exact wsome (by assumption)))) hsz _ (by omega)) rfl (Nat.le_of_ble_eq_true rfl) (Nat.le_of_ble_eq_true rfl) ?_
                refine j_S1R okX6_kindBy lk_X6_89 iX6_readLeapers_20 (by omega) (m_kindBy _ (hat _)) rfl (Nat.le_of_ble_eq_true rfl) (Nat.le_of_ble_eq_true rfl) ?_
                rw [hk0]
                refine j_iconst (v := (-1)) iX6_readLeapers_23 (by decide) ?_
                refine j_icmp_ne (tgt := 29) iX6_readLeapers_24 (by decide) (fun _ => ?_) (fun hno => by first | exact absurd hno (hkd1) | exact absurd (hkd1) hno)
                refine j_aload_n iX6_readLeapers_29 rfl ?_
                refine j_iload_n iX6_readLeapers_30 rfl ?_
                refine j_iconst (v := nI 1) iX6_readLeapers_31 (by decide) ?_
                refine j_iaddN iX6_readLeapers_32  ?_
                refine j_V1R okX6_at lk_X6_79 iX6_readLeapers_33 (by omega) (wset_lt (by (try simp only [List.length_set]); exact wsome hm)) rfl (m_at ((by repeat (first | assumption | refine wset_ne (by decide) ?_ | exact wset_lt (by (try simp only [List.length_set]); exact wsome (by assumption)))) : _ = some (oM bd R C fr lp lps sn sz (false) (N) (freeF pg N) (l) tl sd ik kb kf kl kn hh)) (by repeat (first | assumption | refine wset_ne (by decide) ?_ | exact wset_lt (by (try simp only [List.length_set]); exact wsome (by assumption)))) hsz _ (by omega)) rfl (Nat.le_of_ble_eq_true rfl) (Nat.le_of_ble_eq_true rfl) ?_
                rw [ea]
                refine j_bipush (v := nI 97) iX6_readLeapers_36 (by decide) ?_
                refine j_isubN iX6_readLeapers_38 (by omega) ?_
                refine j_istore iX6_readLeapers_39 (by decide) rfl ?_
                dsimp only [List.set]
                refine j_iload iX6_readLeapers_41 rfl ?_
                refine j_iconst (v := nI 0) iX6_readLeapers_43 (by decide) ?_
                refine j_aload_n iX6_readLeapers_44 rfl ?_
                refine j_get fk_X6_76 iX6_readLeapers_45 (wset_lt (by (try simp only [List.length_set]); exact wsome hm)) (by rfl) ?_
                refine j_iconst (v := nI 1) iX6_readLeapers_48 (by decide) ?_
                refine j_isubN iX6_readLeapers_49 (by omega) ?_
                refine j_S3R okX6_within lk_X6_68 iX6_readLeapers_50 (by omega) (m_within _ _ _) rfl (Nat.le_of_ble_eq_true rfl) (Nat.le_of_ble_eq_true rfl) ?_
                refine j_if_eqB (tgt := 65) iX6_readLeapers_53 (by decide) (fun hno => Bool.noConfusion (hno.symm.trans (show _ = true from by rw [wi_N (by omega) (by decide) (by omega)]; exact decide_eq_true ⟨Nat.zero_le _, by omega⟩))) (fun _ => ?_)
                refine j_iload_n iX6_readLeapers_56 rfl ?_
                refine j_iload iX6_readLeapers_57 rfl ?_
                refine j_S2R okX6_isIn lk_X6_92 iX6_readLeapers_59 (by omega) (m_isIn left _ (by omega) (by omega)) rfl (Nat.le_of_ble_eq_true rfl) (Nat.le_of_ble_eq_true rfl) ?_
                refine j_if_neB (tgt := 69) iX6_readLeapers_62 (by decide) (fun _ => ?_) (fun hno => Bool.noConfusion (hno.symm.trans (show _ = true from hle)))
                refine j_iload_n iX6_readLeapers_69 rfl ?_
                refine j_iconst (v := nI 1) iX6_readLeapers_70 (by decide) ?_
                refine j_iload iX6_readLeapers_71 rfl ?_
                refine j_ishlN iX6_readLeapers_73 (by omega) ?_
                refine j_iconst (v := (-1)) iX6_readLeapers_74 (by decide) ?_
                refine j_ixor iX6_readLeapers_75 ?_
                refine j_iandnN iX6_readLeapers_76 ?_
                refine j_istore_n iX6_readLeapers_77 (by decide) rfl ?_
                dsimp only [List.set]
                refine j_aload_n iX6_readLeapers_78 rfl ?_
                refine j_dup iX6_readLeapers_79 rfl ?_
                refine j_get fk_X6_86 iX6_readLeapers_80 (wset_lt (by (try simp only [List.length_set]); exact wsome hm)) (by rfl) ?_
                refine j_iconst (v := nI 1) iX6_readLeapers_83 (by decide) ?_
                refine j_iaddN iX6_readLeapers_84  ?_
                refine j_put fk_X6_86 iX6_readLeapers_85 (wset_lt (by (try simp only [List.length_set]); exact wsome hm)) (by intro; rfl) (by intro; rfl) (Nat.le_of_ble_eq_true rfl) ?_
                dsimp only [List.set]
                refine j_iinc (v := 2) iX6_readLeapers_88 rfl (by decide) (by decide) rfl ?_
                dsimp only [List.set]
                refine j_loc (ls' := [.ref 33, .int (nI (4 + N)), .int (nI (ad left (2 ^ (pg (4 + N + 3 * l + 1) - 97)))), .int (nI (4 + N + 3 * l + 2)), .int (nI (pg (4 + N + 3 * l + 1) - 97))]) (by rw [show (nI (4 + N + 3 * l) + 2 : Int32) = nI (4 + N + 3 * l + 2) from nI_add _ 2]) ?_
                refine j_aload_n iX6_readLeapers_91 rfl ?_
                refine j_iload_n iX6_readLeapers_92 rfl ?_
                refine j_aload_n iX6_readLeapers_93 rfl ?_
                refine j_get fk_X6_72 iX6_readLeapers_94 (wset_lt (by (try simp only [List.length_set]); exact wsome hm)) (by rfl) ?_
                refine j_icmp_neN (tgt := 104) iX6_readLeapers_97 (by decide) (by omega) (by omega) (fun _ => ?_) (fun hno => by exfalso; omega)
                refine j_iconst (v := nI 0) iX6_readLeapers_104 (by decide) ?_
                refine j_put fk_X6_96 iX6_readLeapers_105 (wset_lt (by (try simp only [List.length_set]); exact wsome hm)) (by intro; rfl) (by intro; rfl) (Nat.le_of_ble_eq_true rfl) ?_
                dsimp only [List.set]
                refine j_aload_n iX6_readLeapers_108 rfl ?_
                refine j_get fk_X6_86 iX6_readLeapers_109 (wset_lt (by (try simp only [List.length_set]); exact wsome hm)) (by rfl) ?_
                refine j_iconst (v := nI 4) iX6_readLeapers_112 (by decide) ?_
                refine j_icmp_eqN (tgt := 126) iX6_readLeapers_113 (by decide) (by omega) (by omega) (fun h113 => ?_) (fun h113 => ?_)
                · try rw [wset2, wset2]
                  refine j_iload_n iX6_readLeapers_126 rfl ?_
                  refine j_iret iX6_readLeapers_127 rfl (by first | rfl | exact nar_bI _ | exact nar_bP) (hW false (decide_eq_false h97).symm (fun z => (by first | (rw [f2]; exact decide_eq_false (fun y => (by omega))) | (rw [f2, ← atM_lt (pg := pg) z]; exact decide_eq_false (fun y => (by omega))))))
                · refine j_aload_n iX6_readLeapers_116 rfl ?_
                  refine j_iload_n iX6_readLeapers_117 rfl ?_
                  have hb118 := hat (4 + N + 3 * l + 2)
                  rw [wset2, wset2]
                  refine j_V1R okX6_at lk_X6_79 iX6_readLeapers_118 (by omega) (wset_lt (by (try simp only [List.length_set]); exact wsome hm)) rfl ((hA false)) rfl (Nat.le_of_ble_eq_true rfl) (Nat.le_of_ble_eq_true rfl) ?_
                  refine j_bipush (v := nI 44) iX6_readLeapers_121 (by decide) ?_
                  refine j_icmp_eqN (tgt := 128) iX6_readLeapers_123 (by decide) (by omega) (by omega) (fun h123 => ?_) (fun h123 => ?_)
                  · refine j_iincN iX6_readLeapers_128 rfl (by decide) rfl ?_
                    dsimp only [List.set]
                    refine j_goto (tgt := 7) iX6_readLeapers_131 (by decide) ?_
                    exact J.fg (hnext h123 h113) (by first | (simp [LF]; done) | (simp [LF, bI]; done))
                  · try rw [wset2, wset2]
                    refine j_iload_n iX6_readLeapers_126 rfl ?_
                    refine j_iret iX6_readLeapers_127 rfl (by first | rfl | exact nar_bI _ | exact nar_bP) (hW false (decide_eq_false h97).symm (fun z => (by first | (rw [f2]; exact decide_eq_false (fun y => (by omega))) | (rw [f2, ← atM_lt (pg := pg) z]; exact decide_eq_false (fun y => (by omega))))))
            · -- not in left
              have hb2 := hbad (fun z => Bool.eq_false_iff.mpr (fun y => hle ((hop z).mp y).2.2))
              refine j_aload_n iX6_readLeapers_7 rfl ?_
              refine j_get fk_X6_86 iX6_readLeapers_8 (by repeat (first | assumption | refine wset_ne (by decide) ?_ | exact wset_lt (by (try simp only [List.length_set]); exact wsome (by assumption)))) (by rfl) ?_
              refine j_iconst (v := nI 4) iX6_readLeapers_11 (by decide) ?_
              refine j_icmp_geN (tgt := 134) iX6_readLeapers_12 (by decide) (by omega) (by omega) (fun hno => by exfalso; omega) (fun _ => ?_)
              refine j_aload_n iX6_readLeapers_15 rfl ?_
              refine j_iload_n iX6_readLeapers_16 rfl ?_
              refine j_V1R okX6_at lk_X6_79 iX6_readLeapers_17 (by omega) (by repeat (first | assumption | refine wset_ne (by decide) ?_ | exact wset_lt (by (try simp only [List.length_set]); exact wsome (by assumption)))) rfl (m_at ((by repeat (first | assumption | refine wset_ne (by decide) ?_ | exact wset_lt (by (try simp only [List.length_set]); exact wsome (by assumption)))) : _ = some (oM bd R C fr lp lps sn sz (false) (N) (freeF pg N) (l) tl sd ik kb kf kl kn hh)) (by repeat (first | assumption | refine wset_ne (by decide) ?_ | exact wset_lt (by (try simp only [List.length_set]); exact wsome (by assumption)))) hsz _ (by omega)) rfl (Nat.le_of_ble_eq_true rfl) (Nat.le_of_ble_eq_true rfl) ?_
              refine j_S1R okX6_kindBy lk_X6_89 iX6_readLeapers_20 (by omega) (m_kindBy _ (hat _)) rfl (Nat.le_of_ble_eq_true rfl) (Nat.le_of_ble_eq_true rfl) ?_
              rw [hk0]
              refine j_iconst (v := (-1)) iX6_readLeapers_23 (by decide) ?_
              refine j_icmp_ne (tgt := 29) iX6_readLeapers_24 (by decide) (fun _ => ?_) (fun hno => by first | exact absurd hno (hkd1) | exact absurd (hkd1) hno)
              refine j_aload_n iX6_readLeapers_29 rfl ?_
              refine j_iload_n iX6_readLeapers_30 rfl ?_
              refine j_iconst (v := nI 1) iX6_readLeapers_31 (by decide) ?_
              refine j_iaddN iX6_readLeapers_32  ?_
              refine j_V1R okX6_at lk_X6_79 iX6_readLeapers_33 (by omega) (by repeat (first | assumption | refine wset_ne (by decide) ?_ | exact wset_lt (by (try simp only [List.length_set]); exact wsome (by assumption)))) rfl (m_at ((by repeat (first | assumption | refine wset_ne (by decide) ?_ | exact wset_lt (by (try simp only [List.length_set]); exact wsome (by assumption)))) : _ = some (oM bd R C fr lp lps sn sz (false) (N) (freeF pg N) (l) tl sd ik kb kf kl kn hh)) (by repeat (first | assumption | refine wset_ne (by decide) ?_ | exact wset_lt (by (try simp only [List.length_set]); exact wsome (by assumption)))) hsz _ (by omega)) rfl (Nat.le_of_ble_eq_true rfl) (Nat.le_of_ble_eq_true rfl) ?_
              rw [ea]
              refine j_bipush (v := nI 97) iX6_readLeapers_36 (by decide) ?_
              refine j_isubN iX6_readLeapers_38 (by omega) ?_
              refine j_istore iX6_readLeapers_39 (by decide) rfl ?_
              dsimp only [List.set]
              refine j_iload iX6_readLeapers_41 rfl ?_
              refine j_iconst (v := nI 0) iX6_readLeapers_43 (by decide) ?_
              refine j_aload_n iX6_readLeapers_44 rfl ?_
              refine j_get fk_X6_76 iX6_readLeapers_45 (by repeat (first | assumption | refine wset_ne (by decide) ?_ | exact wset_lt (by (try simp only [List.length_set]); exact wsome (by assumption)))) (by rfl) ?_
              refine j_iconst (v := nI 1) iX6_readLeapers_48 (by decide) ?_
              refine j_isubN iX6_readLeapers_49 (by omega) ?_
              refine j_S3R okX6_within lk_X6_68 iX6_readLeapers_50 (by omega) (m_within _ _ _) rfl (Nat.le_of_ble_eq_true rfl) (Nat.le_of_ble_eq_true rfl) ?_
              refine j_if_eqB (tgt := 65) iX6_readLeapers_53 (by decide) (fun hno => Bool.noConfusion (hno.symm.trans (show _ = true from by rw [wi_N (by omega) (by decide) (by omega)]; exact decide_eq_true ⟨Nat.zero_le _, by omega⟩))) (fun _ => ?_)
              refine j_iload_n iX6_readLeapers_56 rfl ?_
              refine j_iload iX6_readLeapers_57 rfl ?_
              refine j_S2R okX6_isIn lk_X6_92 iX6_readLeapers_59 (by omega) (m_isIn left _ (by omega) (by omega)) rfl (Nat.le_of_ble_eq_true rfl) (Nat.le_of_ble_eq_true rfl) ?_
              refine j_if_neB (tgt := 69) iX6_readLeapers_62 (by decide) (fun hno => Bool.noConfusion (hno.symm.trans (show _ = false from (Bool.eq_false_iff.mpr hle)))) (fun _ => ?_)
              refine j_iload_n iX6_readLeapers_65 rfl ?_
              refine j_iconst (v := nI 1) iX6_readLeapers_66 (by decide) ?_
              refine j_iaddN iX6_readLeapers_67  ?_
              refine j_iret iX6_readLeapers_68 rfl (by first | rfl | exact nar_bI _ | exact nar_bP) (⟨by rw [hb2.1], false, l, rfl, hb2.2.symm, fun z => by rw [hb2.2] at z; cases z⟩)
          · -- behind the last cell
            have hb2 := hbad (fun z => Bool.eq_false_iff.mpr (fun y => hin ((hop z).mp y).2.1))
            refine j_aload_n iX6_readLeapers_7 rfl ?_
            refine j_get fk_X6_86 iX6_readLeapers_8 (by repeat (first | assumption | refine wset_ne (by decide) ?_ | exact wset_lt (by (try simp only [List.length_set]); exact wsome (by assumption)))) (by rfl) ?_
            refine j_iconst (v := nI 4) iX6_readLeapers_11 (by decide) ?_
            refine j_icmp_geN (tgt := 134) iX6_readLeapers_12 (by decide) (by omega) (by omega) (fun hno => by exfalso; omega) (fun _ => ?_)
            refine j_aload_n iX6_readLeapers_15 rfl ?_
            refine j_iload_n iX6_readLeapers_16 rfl ?_
            refine j_V1R okX6_at lk_X6_79 iX6_readLeapers_17 (by omega) (by repeat (first | assumption | refine wset_ne (by decide) ?_ | exact wset_lt (by (try simp only [List.length_set]); exact wsome (by assumption)))) rfl (m_at ((by repeat (first | assumption | refine wset_ne (by decide) ?_ | exact wset_lt (by (try simp only [List.length_set]); exact wsome (by assumption)))) : _ = some (oM bd R C fr lp lps sn sz (false) (N) (freeF pg N) (l) tl sd ik kb kf kl kn hh)) (by repeat (first | assumption | refine wset_ne (by decide) ?_ | exact wset_lt (by (try simp only [List.length_set]); exact wsome (by assumption)))) hsz _ (by omega)) rfl (Nat.le_of_ble_eq_true rfl) (Nat.le_of_ble_eq_true rfl) ?_
            refine j_S1R okX6_kindBy lk_X6_89 iX6_readLeapers_20 (by omega) (m_kindBy _ (hat _)) rfl (Nat.le_of_ble_eq_true rfl) (Nat.le_of_ble_eq_true rfl) ?_
            rw [hk0]
            refine j_iconst (v := (-1)) iX6_readLeapers_23 (by decide) ?_
            refine j_icmp_ne (tgt := 29) iX6_readLeapers_24 (by decide) (fun _ => ?_) (fun hno => by first | exact absurd hno (hkd1) | exact absurd (hkd1) hno)
            refine j_aload_n iX6_readLeapers_29 rfl ?_
            refine j_iload_n iX6_readLeapers_30 rfl ?_
            refine j_iconst (v := nI 1) iX6_readLeapers_31 (by decide) ?_
            refine j_iaddN iX6_readLeapers_32  ?_
            refine j_V1R okX6_at lk_X6_79 iX6_readLeapers_33 (by omega) (by repeat (first | assumption | refine wset_ne (by decide) ?_ | exact wset_lt (by (try simp only [List.length_set]); exact wsome (by assumption)))) rfl (m_at ((by repeat (first | assumption | refine wset_ne (by decide) ?_ | exact wset_lt (by (try simp only [List.length_set]); exact wsome (by assumption)))) : _ = some (oM bd R C fr lp lps sn sz (false) (N) (freeF pg N) (l) tl sd ik kb kf kl kn hh)) (by repeat (first | assumption | refine wset_ne (by decide) ?_ | exact wset_lt (by (try simp only [List.length_set]); exact wsome (by assumption)))) hsz _ (by omega)) rfl (Nat.le_of_ble_eq_true rfl) (Nat.le_of_ble_eq_true rfl) ?_
            rw [ea]
            refine j_bipush (v := nI 97) iX6_readLeapers_36 (by decide) ?_
            refine j_isubN iX6_readLeapers_38 (by omega) ?_
            refine j_istore iX6_readLeapers_39 (by decide) rfl ?_
            dsimp only [List.set]
            refine j_iload iX6_readLeapers_41 rfl ?_
            refine j_iconst (v := nI 0) iX6_readLeapers_43 (by decide) ?_
            refine j_aload_n iX6_readLeapers_44 rfl ?_
            refine j_get fk_X6_76 iX6_readLeapers_45 (by repeat (first | assumption | refine wset_ne (by decide) ?_ | exact wset_lt (by (try simp only [List.length_set]); exact wsome (by assumption)))) (by rfl) ?_
            refine j_iconst (v := nI 1) iX6_readLeapers_48 (by decide) ?_
            refine j_isubN iX6_readLeapers_49 (by omega) ?_
            refine j_S3R okX6_within lk_X6_68 iX6_readLeapers_50 (by omega) (m_within _ _ _) rfl (Nat.le_of_ble_eq_true rfl) (Nat.le_of_ble_eq_true rfl) ?_
            refine j_if_eqB (tgt := 65) iX6_readLeapers_53 (by decide) (fun _ => ?_) (fun hno => Bool.noConfusion (hno.symm.trans (show _ = false from by rw [wi_N (by omega) (by decide) (by omega)]; exact decide_eq_false (fun y : 0 ≤ pg (4 + N + 3 * l + 1) - 97 ∧ pg (4 + N + 3 * l + 1) - 97 ≤ N - 1 => by omega))))
            refine j_iload_n iX6_readLeapers_65 rfl ?_
            refine j_iconst (v := nI 1) iX6_readLeapers_66 (by decide) ?_
            refine j_iaddN iX6_readLeapers_67  ?_
            refine j_iret iX6_readLeapers_68 rfl (by first | rfl | exact nar_bI _ | exact nar_bP) (⟨by rw [hb2.1], false, l, rfl, hb2.2.symm, fun z => by rw [hb2.2] at z; cases z⟩)
        · -- before the first letter
          have hb2 := hbad (fun z => Bool.eq_false_iff.mpr (fun y => hlo (by rw [atM_lt z]; exact ((hop z).mp y).1)))
          refine j_aload_n iX6_readLeapers_7 rfl ?_
          refine j_get fk_X6_86 iX6_readLeapers_8 (by repeat (first | assumption | refine wset_ne (by decide) ?_ | exact wset_lt (by (try simp only [List.length_set]); exact wsome (by assumption)))) (by rfl) ?_
          refine j_iconst (v := nI 4) iX6_readLeapers_11 (by decide) ?_
          refine j_icmp_geN (tgt := 134) iX6_readLeapers_12 (by decide) (by omega) (by omega) (fun hno => by exfalso; omega) (fun _ => ?_)
          refine j_aload_n iX6_readLeapers_15 rfl ?_
          refine j_iload_n iX6_readLeapers_16 rfl ?_
          refine j_V1R okX6_at lk_X6_79 iX6_readLeapers_17 (by omega) (by repeat (first | assumption | refine wset_ne (by decide) ?_ | exact wset_lt (by (try simp only [List.length_set]); exact wsome (by assumption)))) rfl (m_at ((by repeat (first | assumption | refine wset_ne (by decide) ?_ | exact wset_lt (by (try simp only [List.length_set]); exact wsome (by assumption)))) : _ = some (oM bd R C fr lp lps sn sz (false) (N) (freeF pg N) (l) tl sd ik kb kf kl kn hh)) (by repeat (first | assumption | refine wset_ne (by decide) ?_ | exact wset_lt (by (try simp only [List.length_set]); exact wsome (by assumption)))) hsz _ (by omega)) rfl (Nat.le_of_ble_eq_true rfl) (Nat.le_of_ble_eq_true rfl) ?_
          refine j_S1R okX6_kindBy lk_X6_89 iX6_readLeapers_20 (by omega) (m_kindBy _ (hat _)) rfl (Nat.le_of_ble_eq_true rfl) (Nat.le_of_ble_eq_true rfl) ?_
          rw [hk0]
          refine j_iconst (v := (-1)) iX6_readLeapers_23 (by decide) ?_
          refine j_icmp_ne (tgt := 29) iX6_readLeapers_24 (by decide) (fun _ => ?_) (fun hno => by first | exact absurd hno (hkd1) | exact absurd (hkd1) hno)
          refine j_aload_n iX6_readLeapers_29 rfl ?_
          refine j_iload_n iX6_readLeapers_30 rfl ?_
          refine j_iconst (v := nI 1) iX6_readLeapers_31 (by decide) ?_
          refine j_iaddN iX6_readLeapers_32  ?_
          refine j_V1R okX6_at lk_X6_79 iX6_readLeapers_33 (by omega) (by repeat (first | assumption | refine wset_ne (by decide) ?_ | exact wset_lt (by (try simp only [List.length_set]); exact wsome (by assumption)))) rfl (m_at ((by repeat (first | assumption | refine wset_ne (by decide) ?_ | exact wset_lt (by (try simp only [List.length_set]); exact wsome (by assumption)))) : _ = some (oM bd R C fr lp lps sn sz (false) (N) (freeF pg N) (l) tl sd ik kb kf kl kn hh)) (by repeat (first | assumption | refine wset_ne (by decide) ?_ | exact wset_lt (by (try simp only [List.length_set]); exact wsome (by assumption)))) hsz _ (by omega)) rfl (Nat.le_of_ble_eq_true rfl) (Nat.le_of_ble_eq_true rfl) ?_
          refine j_bipush (v := nI 97) iX6_readLeapers_36 (by decide) ?_
          refine j_isub iX6_readLeapers_38 ?_
          refine j_istore iX6_readLeapers_39 (by decide) rfl ?_
          dsimp only [List.set]
          refine j_iload iX6_readLeapers_41 rfl ?_
          refine j_iconst (v := nI 0) iX6_readLeapers_43 (by decide) ?_
          refine j_aload_n iX6_readLeapers_44 rfl ?_
          refine j_get fk_X6_76 iX6_readLeapers_45 (by repeat (first | assumption | refine wset_ne (by decide) ?_ | exact wset_lt (by (try simp only [List.length_set]); exact wsome (by assumption)))) (by rfl) ?_
          refine j_iconst (v := nI 1) iX6_readLeapers_48 (by decide) ?_
          refine j_isubN iX6_readLeapers_49 (by omega) ?_
          refine j_S3R okX6_within lk_X6_68 iX6_readLeapers_50 (by omega) (m_within _ _ _) rfl (Nat.le_of_ble_eq_true rfl) (Nat.le_of_ble_eq_true rfl) ?_
          refine j_if_eqB (tgt := 65) iX6_readLeapers_53 (by decide) (fun _ => ?_) (fun hno => Bool.noConfusion (hno.symm.trans (show _ = false from wi_low (by omega))))
          refine j_iload_n iX6_readLeapers_65 rfl ?_
          refine j_iconst (v := nI 1) iX6_readLeapers_66 (by decide) ?_
          refine j_iaddN iX6_readLeapers_67  ?_
          refine j_iret iX6_readLeapers_68 rfl (by first | rfl | exact nar_bI _ | exact nar_bP) (⟨by rw [hb2.1], false, l, rfl, hb2.2.symm, fun z => by rw [hb2.2] at z; cases z⟩)
  refine j_start (ls := [.ref 33, .int (nI (4 + N)), .null, .null, .null]) rfl ?_
  have h0 := L 4 0 (freeF pg N) rfl (by omega) (by rw [show 4 + N + 3 * 0 = 4 + N by omega]; exact hfit) (free_b hN2.2) (fun c => by rw [free_tb]; exact ⟨fun z => ⟨z, fun i hi => absurd hi (Nat.not_lt_zero _)⟩, fun z => z.1⟩) (by omega) .null
  rw [show 4 + N + 3 * 0 = 4 + N by omega, wset_eq hm] at h0
  refine j_aload_n iX6_readLeapers_0 rfl ?_
  refine j_get fk_X6_83 iX6_readLeapers_1 (by repeat (first | assumption | refine wset_ne (by decide) ?_ | exact wset_lt (by (try simp only [List.length_set]); exact wsome (by assumption)))) (by rfl) ?_
  refine j_istore_n iX6_readLeapers_4 (by decide) rfl ?_
  dsimp only [List.set]
  refine j_iload_n iX6_readLeapers_5 rfl ?_
  refine j_istore_n iX6_readLeapers_6 (by decide) rfl ?_
  dsimp only [List.set]
  exact h0
end
